/-! written by program (wip/gen) -/
def F_S_isEnded (g : se_G)  : Int32 := (if (g 0 9) = 0 then 1 else (if (g 0 9) = 11 then 1 else 0))
def F_S_Outgoing_windowIs (g : se_G) (p1 : Int32) (p2 : Int32) (p3 : Int32) : se_G := (se_u (se_u (se_u g 1 10 p1) 1 11 p2) 1 12 p3)
def F_S_Outgoing_restart (g : se_G) (p1 : Int32) (p2 : Int32) : se_G := (F_S_Outgoing_windowIs (se_u (se_u (se_u (se_u (se_u (se_u (se_u (se_u (se_u g 1 1 0) 1 2 0) 1 3 0) 1 4 p1) 1 5 p1) 1 6 p1) 1 7 0) 1 8 0) 1 9 p2) 0 0 0)
def F_S_Arrays_fill_j5 : Nat → se_G → Int32 → Int32 → Int32 → se_G
  | 0, gj5, _, _, _ => gj5
  | n + 1, gj5, v1_5, v2_5, v3_5 => (if v3_5 ≤ v2_5 then gj5 else (F_S_Arrays_fill_j5 n (se_u gj5 4 (Int32.toNatClampNeg v2_5) v1_5) v1_5 (v2_5 + 1) v3_5))
def F_S_Arrays_fill (g : se_G) (p1 : Int32) : se_G := (F_S_Arrays_fill_j5 ((((2048) : Int32).toInt - ((0) : Int32).toInt).toNat + 1) g p1 0 2048)
def F_S_Incoming_restart (g : se_G)  : se_G := (se_u (se_u (se_u (se_u (se_u (se_u (se_u (F_S_Arrays_fill g (-1)) 3 1 0) 3 2 0) 3 3 0) 3 4 0) 3 5 0) 3 6 0) 3 7 0)
def F_S_Watch_restart (g : se_G)  : se_G := (se_u (se_u (se_u (se_u (se_u (se_u (se_u (se_u (se_u (se_u g 5 1 0) 5 2 0) 5 3 0) 5 4 60) 5 5 0) 5 6 0) 5 7 0) 5 8 0) 5 9 0) 5 10 0)
def F_S_Due_dropStream (g : se_G)  : se_G := (se_u (se_u (se_u g 6 4 0) 6 6 0) 6 7 0)
def F_S_Due_restart (g : se_G)  : se_G := (se_u (se_u (F_S_Due_dropStream g) 6 5 0) 6 8 0)
def F_S_openIsDue (g : se_G)  : se_G := (se_u (se_u g 1 6 ((g 1 4) + 1)) 6 4 1)
def F_S_startStream_k1 (p2 : Int32) (g4 : se_G) : se_G := (if p2 = 0 then (F_S_openIsDue (se_u (se_u g4 0 10 p2) 0 9 2)) else (se_u (se_u g4 0 10 p2) 0 9 1))
def F_S_startStream_k2 (p2 : Int32) (g3 : se_G) : se_G := (F_S_startStream_k1 p2 (F_S_Due_restart g3))
def F_S_startStream_k3 (p2 : Int32) (g2 : se_G) : se_G := (F_S_startStream_k2 p2 (F_S_Watch_restart g2))
def F_S_startStream_k4 (p2 : Int32) (g1 : se_G) : se_G := (F_S_startStream_k3 p2 (F_S_Incoming_restart g1))
def F_S_startStream (g : se_G) (p1 : Int32) (p2 : Int32) : se_G := (F_S_startStream_k4 p2 (F_S_Outgoing_restart g p1 (g 0 0)))
def F_S_begin (g : se_G) (p1 : Int32) (p2 : Int32) : Int32 × Int32 × se_G := (if (F_S_isEnded g) = 0 then (2, 0, g) else (0, 0, (F_S_startStream g p1 p2)))
def F_S_isHandful (p0 : Int32) : Int32 := (if p0 < 1 then 0 else (if 8 < p0 then 0 else 1))
def F_S_Outgoing_space (g : se_G)  : Int32 := (2048 - (g 1 2))
def F_S_maySendNew (g : se_G)  : Int32 := (if (g 0 9) = 4 then 1 else (if (g 0 9) = 5 then 1 else (if (g 0 9) = 7 then 1 else (if (g 0 9) = 8 then 1 else (if (g 0 9) = 9 then 1 else 0)))))
def F_S_Outgoing_hasUnthanked (g : se_G)  : Int32 := (if (g 1 5) = (g 1 6) then 0 else 1)
def F_S_Outgoing_unsent (g : se_G)  : Int32 := ((g 1 2) - (g 1 3))
def F_S_Outgoing_hasNew (g : se_G)  : Int32 := (if 0 < (F_S_Outgoing_unsent g) then 1 else (if (g 1 7) = 0 then 0 else (if (g 1 8) = 0 then 1 else 0)))
def F_S_Watch_setAlarm (g : se_G)  : se_G := (se_u (se_u g 5 1 1) 5 2 ((g 5 0) + (g 5 4)))
def F_S_watchClosedWindow (g : se_G)  : se_G := (if (F_S_maySendNew g) = 0 then g else (if (g 5 1) = 0 then (if (F_S_Outgoing_hasUnthanked g) = 0 then (if (g 1 10) = 0 then (if (F_S_Outgoing_hasNew g) = 0 then g else (F_S_Watch_setAlarm g)) else g) else g) else g))
def F_S_byteOf (p0 : Int64) (p2 : Int32) (p3 : Int32) : Int32 := (Int8.toInt32 (Int32.toInt8 (Int64.toInt32 ((Int64.toUInt64 p0 >>> (Int64.toUInt64 (Int32.toInt64 (8 * ((p2 - 1) - p3))) &&& Int64.toUInt64 63)).toInt64))))
def F_S_Outgoing_append (g : se_G) (p1 : Int32) : se_G := (se_u (se_u g 2 (Int32.toNatClampNeg (((g 1 1) + (g 1 2)) &&& 2047)) (vp_nar .byte p1)) 1 2 ((g 1 2) + 1))
def F_S_write_j68 : Nat → se_G → Int64 → Int32 → Int32 → Int32 → Int32 × Int32 × se_G
  | 0, gj68, _, _, _, _ => (0, 0, gj68)
  | n + 1, gj68, v1_68, v3_68, v4_68, v5_68 => (if v4_68 ≤ v5_68 then (0, v4_68, (F_S_watchClosedWindow gj68)) else (F_S_write_j68 n (F_S_Outgoing_append gj68 (F_S_byteOf v1_68 v3_68 v5_68)) v1_68 v3_68 v4_68 (v5_68 + 1)))
def F_S_write (g : se_G) (p1 : Int64) (p3 : Int32) : Int32 × Int32 × se_G := (if (F_S_isHandful p3) = 0 then (1, 0, g) else (if (g 1 7) = 0 then (if (F_S_isEnded g) = 0 then (if (g 0 9) = 1 then (2, 0, g) else (F_S_write_j68 (((((if (F_S_Outgoing_space g) < p3 then (F_S_Outgoing_space g) else p3)) : Int32).toInt - ((0) : Int32).toInt).toNat + 1) g p1 p3 (if (F_S_Outgoing_space g) < p3 then (F_S_Outgoing_space g) else p3) 0)) else (2, 0, g)) else (2, 0, g)))
def F_S_Incoming_room (g : se_G)  : Int32 := (2048 - (g 3 3))
def F_S_Incoming_takeByte (g : se_G)  : Int32 × se_G := ((g 4 (Int32.toNatClampNeg ((g 3 4) &&& 2047))), (se_u (se_u (se_u g 4 (Int32.toNatClampNeg ((g 3 4) &&& 2047)) (-1)) 3 4 ((g 3 4) + 1)) 3 3 ((g 3 3) - 1)))
def F_S_mayTakeBytes (g : se_G)  : Int32 := (if (g 0 9) = 4 then 1 else (if (g 0 9) = 5 then 1 else (if (g 0 9) = 6 then 1 else 0)))
def F_S_readByte_k1 (g : se_G) (r1 : Int32) (g1 : se_G) : Int32 × se_G := (if ((if (if 1024 < (g 1 9) then 1024 else (g 1 9)) ≤ (F_S_Incoming_room g) then 0 else 1) : Int32) = 0 then (r1, g1) else (if (F_S_Incoming_room g1) < (if 1024 < (g 1 9) then 1024 else (g 1 9)) then (r1, g1) else (if (F_S_mayTakeBytes g1) = 0 then (r1, g1) else (r1, (se_u g1 6 8 1)))))
def F_S_readByte (g : se_G)  : Int32 × se_G := (F_S_readByte_k1 g (F_S_Incoming_takeByte g).1 (F_S_Incoming_takeByte g).2)
def F_S_read (g : se_G)  : Int32 × Int32 × se_G := (if (g 3 3) ≤ 0 then (if (g 3 7) = 0 then (if (F_S_isEnded g) = 0 then (if (g 0 9) = 1 then (2, 0, g) else (0, (-1), g)) else (2, 0, g)) else (0, (-2), g)) else (0, (F_S_readByte g).1, (F_S_readByte g).2))
def F_S_beginQuiet (g : se_G)  : se_G := (se_u g 0 11 ((g 5 0) + (g 0 1)))
def F_S_halt_k1 (p1 : Int32) (g1 : se_G) : se_G := (if p1 = 10 then (F_S_beginQuiet g1) else (se_u g1 6 8 0))
def F_S_halt (g : se_G) (p1 : Int32) : se_G := (F_S_halt_k1 p1 (F_S_Due_dropStream (se_u (se_u g 0 9 p1) 5 1 0)))
def F_S_close (g : se_G)  : Int32 × Int32 × se_G := (if (g 1 7) = 0 then (if (F_S_isEnded g) = 0 then (if (g 0 9) = 1 then (0, 0, (F_S_watchClosedWindow (F_S_halt (se_u g 1 7 1) 0))) else (if (g 0 9) = 2 then (0, 0, (F_S_watchClosedWindow (F_S_halt (se_u g 1 7 1) 0))) else (if (g 0 9) = 4 then (0, 0, (F_S_watchClosedWindow (se_u (se_u g 1 7 1) 0 9 5))) else (if (g 0 9) = 7 then (0, 0, (F_S_watchClosedWindow (se_u (se_u g 1 7 1) 0 9 9))) else (0, 0, (F_S_watchClosedWindow (se_u g 1 7 1))))))) else (2, 0, g)) else (2, 0, g))
def F_S_Due_resetIs (g : se_G) (p1 : Int32) (p2 : Int32) (p3 : Int32) : se_G := (se_u (se_u (se_u (se_u g 6 0 1) 6 1 p1) 6 2 p2) 6 3 p3)
def F_S_abort (g : se_G)  : Int32 × Int32 × se_G := (if (F_S_isEnded g) = 0 then (if (g 0 9) = 1 then (0, 0, (F_S_halt g 11)) else (if (g 0 9) = 2 then (0, 0, (F_S_halt g 11)) else (if (g 0 9) = 10 then (0, 0, (F_S_halt g 11)) else (0, 0, (F_S_halt (F_S_Due_resetIs g 12 (g 1 6) (g 3 2)) 11))))) else (2, 0, g))
def F_S_Watch_ticksToAlarm (g : se_G)  : Int32 := (if (g 5 1) = 0 then 0 else ((g 5 2) - (g 5 0)))
def F_S_Watch_doubleWait (g : se_G)  : se_G := (se_u g 5 4 (if 1200 < (2 * (g 5 4)) then 1200 else (2 * (g 5 4))))
def F_S_takeAlarm_j48 (gj48 : se_G) : se_G := (F_S_Watch_setAlarm (F_S_Watch_doubleWait (se_u gj48 6 4 1)))
def F_S_takeAlarm (g : se_G)  : se_G := (if ((g 5 3) + 1) ≤ 8 then (if (g 0 9) = 2 then (F_S_takeAlarm_j48 (se_u g 5 3 ((g 5 3) + 1))) else (if (g 0 9) = 3 then (F_S_takeAlarm_j48 (se_u g 5 3 ((g 5 3) + 1))) else (if (F_S_Outgoing_hasUnthanked (se_u g 5 3 ((g 5 3) + 1))) = 0 then (F_S_Watch_setAlarm (F_S_Watch_doubleWait (se_u (se_u g 5 3 ((g 5 3) + 1)) 6 7 1))) else (F_S_Watch_setAlarm (F_S_Watch_doubleWait (se_u (se_u g 5 3 ((g 5 3) + 1)) 6 6 1)))))) else (F_S_halt (se_u g 5 3 ((g 5 3) + 1)) 11))
def F_S_takeEvents_j28 (gj28 : se_G) : se_G := (if (gj28 5 1) = 0 then gj28 else (if (gj28 5 0) < (gj28 5 2) then gj28 else (F_S_takeAlarm gj28)))
def F_S_takeEvents (g : se_G)  : se_G := (if (g 0 9) = 10 then (if (g 5 0) < (g 0 11) then (F_S_takeEvents_j28 g) else (F_S_takeEvents_j28 (F_S_halt g 0))) else (F_S_takeEvents_j28 g))
def F_S_run_j48 : Nat → se_G → Int32 → Int32 × Int32 × se_G
  | 0, gj48, _ => (0, 0, gj48)
  | n + 1, gj48, v2_48 => (if v2_48 ≤ 0 then (0, (gj48 5 0), gj48) else (F_S_run_j48 n (F_S_takeEvents (se_u gj48 5 0 ((gj48 5 0) + ((if (gj48 5 1) = 0 then v2_48 else (if 1 < (if (F_S_Watch_ticksToAlarm gj48) < v2_48 then (F_S_Watch_ticksToAlarm gj48) else v2_48) then (if (F_S_Watch_ticksToAlarm gj48) < v2_48 then (F_S_Watch_ticksToAlarm gj48) else v2_48) else 1)) : Int32)))) (v2_48 - ((if (gj48 5 1) = 0 then v2_48 else (if 1 < (if (F_S_Watch_ticksToAlarm gj48) < v2_48 then (F_S_Watch_ticksToAlarm gj48) else v2_48) then (if (F_S_Watch_ticksToAlarm gj48) < v2_48 then (F_S_Watch_ticksToAlarm gj48) else v2_48) else 1)) : Int32))))
def F_S_run (g : se_G) (p1 : Int32) : Int32 × Int32 × se_G := (if p1 < 1 then (1, 0, g) else (if p1 ≤ 2000 then (if p1 ≤ (1000000 - (g 5 0)) then (F_S_run_j48 (((p1) : Int32).toInt.toNat + 1) g p1) else (2, 0, g)) else (1, 0, g)))
def F_S_Segment_headIs_9 (g : se_G) (p1 : Int32) (p2 : Int32) (p3 : Int32) (p4 : Int32) (p5 : Int32) : se_G := (se_u (se_u (se_u (se_u (se_u g 9 2 p1) 9 3 p2) 9 4 p3) 9 5 p4) 9 6 p5)
def F_S_Segment_append_9 (g : se_G) (p1 : Int32) : se_G := (if (g 9 1) < 0 then g else (if 1460 ≤ (g 9 1) then g else (se_u (se_u g 10 (Int32.toNatClampNeg (g 9 1)) (vp_nar .byte p1)) 9 1 ((g 9 1) + 1))))
def F_S_Outgoing_copyTo_j8 : Nat → se_G → Int32 → Int32 → Int32 → se_G
  | 0, gj8, _, _, _ => gj8
  | n + 1, gj8, v2_8, v3_8, v4_8 => (if v3_8 ≤ v4_8 then gj8 else (F_S_Outgoing_copyTo_j8 n (F_S_Segment_append_9 gj8 (gj8 2 (Int32.toNatClampNeg ((((gj8 1 1) + v2_8) + v4_8) &&& 2047)))) v2_8 v3_8 (v4_8 + 1)))
def F_S_Outgoing_copyTo (g : se_G) (p2 : Int32) (p3 : Int32) : se_G := (F_S_Outgoing_copyTo_j8 ((((p3) : Int32).toInt - ((0) : Int32).toInt).toNat + 1) (se_u g 9 1 0) p2 p3 0)
def F_S_make_k1 (g2 : se_G) : se_G := (if (g2 3 1) = 0 then g2 else (se_u g2 6 8 0))
def F_S_make_k2 (g1 : se_G) (p3 : Int32) (p4 : Int32) : se_G := (F_S_make_k1 (F_S_Outgoing_copyTo g1 p3 p4))
def F_S_make (g : se_G) (p1 : Int32) (p2 : Int32) (p3 : Int32) (p4 : Int32) : se_G := (F_S_make_k2 (F_S_Segment_headIs_9 g (p1 ||| ((if (g 3 1) = 0 then 0 else 8) : Int32)) p2 (g 3 2) (F_S_Incoming_room g) ((if (p1 &&& 1) = 0 then 0 else (g 0 0)) : Int32)) p3 p4)
def F_S_Outgoing_wasSent (g : se_G) (p1 : Int32) (p2 : Int32) : se_G := (if p2 = 0 then (se_u (se_u g 1 3 ((g 1 3) + p1)) 1 6 ((g 1 6) + p1)) else (se_u (se_u (se_u (se_u g 1 3 ((g 1 3) + p1)) 1 6 ((g 1 6) + p1)) 1 8 1) 1 6 (((g 1 6) + p1) + 1)))
def F_S_Watch_measure (g : se_G) (p1 : Int32) : se_G := (if (g 5 8) = 0 then (se_u (se_u (se_u g 5 8 1) 5 9 p1) 5 10 (g 5 0)) else g)
def F_S_Watch_setAlarmIfOff (g : se_G)  : se_G := (if (g 5 1) = 0 then (F_S_Watch_setAlarm g) else g)
def F_S_makeNew_k1 (g2 : se_G) : se_G := (F_S_Watch_setAlarmIfOff (F_S_Watch_measure g2 (g2 1 6)))
def F_S_makeNew (g : se_G) (p1 : Int32) (p2 : Int32) : se_G := (F_S_makeNew_k1 (F_S_Outgoing_wasSent (F_S_make (se_u g 6 7 0) ((if p2 = 0 then 0 else 2) : Int32) (g 1 6) (g 1 3) p1) p1 p2))
def F_S_makeProbe (g : se_G)  : se_G := (F_S_makeNew g ((if ((if (F_S_Outgoing_unsent g) = 0 then 1 else 0) : Int32) = 0 then 1 else 0) : Int32) ((if (F_S_Outgoing_unsent g) = 0 then 1 else 0) : Int32))
def F_S_Outgoing_allowed (g : se_G)  : Int32 := ((g 1 10) - ((g 1 6) - (g 1 5)))
def F_S_Outgoing_newBytes (g : se_G)  : Int32 := (if 0 < (if (if (F_S_Outgoing_allowed g) < (g 1 9) then (F_S_Outgoing_allowed g) else (g 1 9)) < (F_S_Outgoing_unsent g) then (if (F_S_Outgoing_allowed g) < (g 1 9) then (F_S_Outgoing_allowed g) else (g 1 9)) else (F_S_Outgoing_unsent g)) then (if (if (F_S_Outgoing_allowed g) < (g 1 9) then (F_S_Outgoing_allowed g) else (g 1 9)) < (F_S_Outgoing_unsent g) then (if (F_S_Outgoing_allowed g) < (g 1 9) then (F_S_Outgoing_allowed g) else (g 1 9)) else (F_S_Outgoing_unsent g)) else 0)
def F_S_Outgoing_newHasLast (g : se_G)  : Int32 := (if (g 1 7) = 0 then 0 else (if (g 1 8) = 0 then (if (F_S_Outgoing_newBytes g) = (F_S_Outgoing_unsent g) then (if (F_S_Outgoing_allowed g) ≤ (F_S_Outgoing_newBytes g) then 0 else 1) else 0) else 0))
def F_S_Outgoing_maySend (g : se_G)  : Int32 := (if 0 < (F_S_Outgoing_newBytes g) then 1 else (if (F_S_Outgoing_newHasLast g) = 0 then 0 else 1))
def F_S_makeAgain (g : se_G)  : se_G := (se_u (F_S_make (se_u g 6 6 0) ((if ((if (g 1 8) = 0 then 0 else ((if (if (g 1 9) < (g 1 3) then (g 1 9) else (g 1 3)) = (g 1 3) then 1 else 0) : Int32)) : Int32) = 0 then 0 else 2) : Int32) (g 1 5) 0 (if (g 1 9) < (g 1 3) then (g 1 9) else (g 1 3))) 5 8 0)
def F_S_makeOpen_k1 (g1 : se_G) : se_G := (if (g1 6 5) = 0 then (F_S_Watch_setAlarmIfOff (F_S_Watch_measure (se_u g1 6 5 1) (g1 1 6))) else (F_S_Watch_setAlarmIfOff (se_u g1 5 8 0)))
def F_S_makeOpen (g : se_G)  : se_G := (F_S_makeOpen_k1 (F_S_make (se_u g 6 4 0) 1 (g 1 4) 0 0))
def F_S_Segment_has_9 (g : se_G) (p1 : Int32) : Int32 := (if ((g 9 2) &&& p1) = 0 then 0 else 1)
def F_S_makeReset_k1 (g1 : se_G) : se_G := (if (F_S_Segment_has_9 (se_u g1 9 1 0) 8) = 0 then (se_u g1 9 1 0) else (se_u (se_u g1 9 1 0) 6 8 0))
def F_S_makeReset (g : se_G)  : se_G := (F_S_makeReset_k1 (F_S_Segment_headIs_9 (se_u g 6 0 0) (g 6 1) (g 6 2) (g 6 3) 0 0))
def F_S_next_j89 (gj89 : se_G) : Int32 × se_G := (if (gj89 6 7) = 0 then (if (gj89 6 8) = 0 then (0, gj89) else (1, (se_u (F_S_make gj89 0 (gj89 1 6) 0 0) 0 8 1))) else (1, (se_u (F_S_makeProbe gj89) 0 8 1)))
def F_S_next (g : se_G)  : Int32 × se_G := (if (g 6 0) = 0 then (if (g 6 4) = 0 then (if (g 6 6) = 0 then (if (F_S_maySendNew g) = 0 then (F_S_next_j89 g) else (if (F_S_Outgoing_maySend g) = 0 then (F_S_next_j89 g) else (1, (se_u (F_S_makeNew g (F_S_Outgoing_newBytes g) (F_S_Outgoing_newHasLast g)) 0 8 1)))) else (1, (se_u (F_S_makeAgain g) 0 8 1))) else (1, (se_u (F_S_makeOpen g) 0 8 1))) else (1, (se_u (F_S_makeReset g) 0 8 1)))
def F_S_segment (g : se_G) (p1 : Int32) : Int32 × Int32 × se_G := (if p1 < 0 then (1, 0, g) else (if p1 ≤ 5 then (if (g 0 8) = 0 then (2, 0, g) else (if p1 = 0 then (0, (g 9 2), g) else (if p1 = 1 then (0, (g 9 3), g) else (if p1 = 2 then (0, (g 9 4), g) else (if p1 = 3 then (0, (g 9 5), g) else (if p1 = 4 then (0, (g 9 6), g) else (0, (g 9 1), g))))))) else (1, 0, g)))
def F_S_byteAt (g : se_G) (p1 : Int32) : Int32 × Int32 × se_G := (if (g 0 8) = 0 then (2, 0, g) else (if p1 < 0 then (3, 0, g) else (if p1 < (g 9 1) then (0, ((g 10 (Int32.toNatClampNeg p1)) &&& 255), g) else (3, 0, g))))
def F_S_Segment_append_7 (g : se_G) (p1 : Int32) : se_G := (if (g 7 1) < 0 then g else (if 1460 ≤ (g 7 1) then g else (se_u (se_u g 8 (Int32.toNatClampNeg (g 7 1)) (vp_nar .byte p1)) 7 1 ((g 7 1) + 1))))
def F_S_feed_j45 : Nat → se_G → Int64 → Int32 → Int32 → Int32 × Int32 × se_G
  | 0, gj45, _, _, _ => (0, 0, gj45)
  | n + 1, gj45, v1_45, v3_45, v4_45 => (if v3_45 ≤ v4_45 then (0, (gj45 7 1), gj45) else (F_S_feed_j45 n (F_S_Segment_append_7 gj45 (F_S_byteOf v1_45 v3_45 v4_45)) v1_45 v3_45 (v4_45 + 1)))
def F_S_feed (g : se_G) (p1 : Int64) (p3 : Int32) : Int32 × Int32 × se_G := (if (F_S_isHandful p3) = 0 then (1, 0, g) else (if p3 ≤ (1460 - (g 7 1)) then (F_S_feed_j45 ((((p3) : Int32).toInt - ((0) : Int32).toInt).toNat + 1) g p1 p3 0) else (2, 0, g)))
def F_S_isWidth (p0 : Int32) : Int32 := (if p0 < 0 then 0 else (if 65535 < p0 then 0 else 1))
def F_S_Segment_headIs_7 (g : se_G) (p1 : Int32) (p2 : Int32) (p3 : Int32) (p4 : Int32) (p5 : Int32) : se_G := (se_u (se_u (se_u (se_u (se_u g 7 2 p1) 7 3 p2) 7 4 p3) 7 5 p4) 7 6 p5)
def F_S_Segment_has_7 (g : se_G) (p1 : Int32) : Int32 := (if ((g 7 2) &&& p1) = 0 then 0 else 1)
def F_S_Segment_size_7 (g : se_G)  : Int32 := (((g 7 1) + ((if (F_S_Segment_has_7 g 1) = 0 then 0 else 1) : Int32)) + ((if (F_S_Segment_has_7 g 2) = 0 then 0 else 1) : Int32))
def F_S_Incoming_fits (g : se_G) (p1 : Int32) (p2 : Int32) : Int32 := (if p2 = 0 then (if (p1 - (g 3 2)) = 0 then 1 else (if (p1 - (g 3 2)) ≤ 0 then 0 else (if (F_S_Incoming_room g) ≤ (p1 - (g 3 2)) then 0 else 1))) else (if (F_S_Incoming_room g) ≤ 0 then 0 else (if (p1 - (g 3 2)) ≤ (-p2) then 0 else (if (F_S_Incoming_room g) ≤ (p1 - (g 3 2)) then 0 else 1))))
def F_S_isBefore (p0 : Int32) (p1 : Int32) : Int32 := (if (p1 - p0) ≤ 0 then 0 else 1)
def F_S_isNotBehind (p0 : Int32) (p1 : Int32) : Int32 := (if (p1 - p0) < 0 then 0 else 1)
def F_S_Outgoing_windowIsOlderThan (g : se_G)  : Int32 := (if (F_S_isBefore (g 1 11) (g 7 3)) = 0 then (if (g 1 11) = (g 7 3) then (if (F_S_isNotBehind (g 1 12) (g 7 4)) = 0 then 0 else 1) else 0) else 1)
def F_S_takeWindow_j119 (gj119 : se_G) (v1_119 : Int32) : se_G := (if v1_119 = 0 then (if (gj119 7 5) = 0 then (se_u gj119 5 3 0) else gj119) else (se_u gj119 5 3 0))
def F_S_takeWindow_k1 (g : se_G) (g1 : se_G) : se_G := (if ((if (g 1 10) = 0 then ((if (g 7 5) = 0 then 0 else 1) : Int32) else 0) : Int32) = 0 then (F_S_takeWindow_j119 g1 ((if (g 1 10) = 0 then ((if (g 7 5) = 0 then 0 else 1) : Int32) else 0) : Int32)) else (if (F_S_Outgoing_hasUnthanked (se_u g1 6 7 0)) = 0 then (F_S_takeWindow_j119 (se_u (se_u g1 6 7 0) 5 1 0) ((if (g 1 10) = 0 then ((if (g 7 5) = 0 then 0 else 1) : Int32) else 0) : Int32)) else (F_S_takeWindow_j119 (se_u g1 6 7 0) ((if (g 1 10) = 0 then ((if (g 7 5) = 0 then 0 else 1) : Int32) else 0) : Int32))))
def F_S_takeWindow (g : se_G)  : se_G := (if (F_S_isBefore (g 7 4) (g 1 5)) = 0 then (if (F_S_Outgoing_windowIsOlderThan g) = 0 then g else (F_S_takeWindow_k1 g (F_S_Outgoing_windowIs g (g 7 5) (g 7 3) (g 7 4)))) else g)
def F_S_Outgoing_lastIsThanked (g : se_G)  : Int32 := (if (g 1 8) = 0 then 0 else (if (F_S_Outgoing_hasUnthanked g) = 0 then 1 else 0))
def F_S_Incoming_store_j35 : Nat → se_G → Int32 → Int32 → se_G
  | 0, gj35, _, _ => gj35
  | n + 1, gj35, v4_35, v5_35 => (if v4_35 ≤ v5_35 then gj35 else (if (gj35 4 (Int32.toNatClampNeg (((gj35 7 3) + v5_35) &&& 2047))) = (-1) then (F_S_Incoming_store_j35 n (se_u gj35 4 (Int32.toNatClampNeg (((gj35 7 3) + v5_35) &&& 2047)) ((gj35 8 (Int32.toNatClampNeg v5_35)) &&& 255)) v4_35 (v5_35 + 1)) else (F_S_Incoming_store_j35 n gj35 v4_35 (v5_35 + 1))))
def F_S_Incoming_store (g : se_G)  : se_G := (F_S_Incoming_store_j35 (((((if ((F_S_Incoming_room g) - ((g 7 3) - (g 3 2))) < (g 7 1) then ((F_S_Incoming_room g) - ((g 7 3) - (g 3 2))) else (g 7 1))) : Int32).toInt - (((if 0 < (-((g 7 3) - (g 3 2))) then (-((g 7 3) - (g 3 2))) else 0)) : Int32).toInt).toNat + 1) g (if ((F_S_Incoming_room g) - ((g 7 3) - (g 3 2))) < (g 7 1) then ((F_S_Incoming_room g) - ((g 7 3) - (g 3 2))) else (g 7 1)) (if 0 < (-((g 7 3) - (g 3 2))) then (-((g 7 3) - (g 3 2))) else 0))
def F_S_Incoming_isAtLast (g : se_G)  : Int32 := (if (g 3 5) = 0 then 0 else (if (g 3 2) = (g 3 6) then 1 else 0))
def F_S_Incoming_goOn_j57 (gj57 : se_G) : se_G := (if (F_S_Incoming_isAtLast gj57) = 0 then gj57 else (se_u (se_u gj57 3 2 ((gj57 3 2) + 1)) 3 7 1))
def F_S_Incoming_goOn_j0 : Nat → se_G → se_G
  | 0, gj0 => gj0
  | n + 1, gj0 => (if 2048 ≤ (gj0 3 3) then (F_S_Incoming_goOn_j57 gj0) else (if (F_S_Incoming_isAtLast gj0) = 0 then (if (gj0 4 (Int32.toNatClampNeg ((gj0 3 2) &&& 2047))) = (-1) then (F_S_Incoming_goOn_j57 gj0) else (F_S_Incoming_goOn_j0 n (se_u (se_u gj0 3 2 ((gj0 3 2) + 1)) 3 3 ((gj0 3 3) + 1)))) else (F_S_Incoming_goOn_j57 gj0)))
def F_S_Incoming_goOn (g : se_G)  : se_G := (F_S_Incoming_goOn_j0 (((2048 : Int32).toInt - (g 3 3).toInt).toNat + 1) g)
def F_S_peerLeaves (g : se_G)  : se_G := (if (g 0 9) = 4 then (se_u g 0 9 7) else (if (g 0 9) = 5 then (se_u g 0 9 8) else (F_S_halt g 10)))
def F_S_Incoming_noteLast (g : se_G) (p1 : Int32) : se_G := (if (g 3 5) = 0 then (if (p1 - (g 3 2)) < 0 then g else (if (F_S_Incoming_room g) ≤ (p1 - (g 3 2)) then g else (se_u (se_u g 3 5 1) 3 6 p1))) else g)
def F_S_takeBytes_j74 (gj74 : se_G) (v1_74 : Int32) : se_G := (if v1_74 = 0 then (if (gj74 7 1) ≤ 0 then gj74 else (se_u gj74 6 8 1)) else (se_u gj74 6 8 1))
def F_S_takeBytes_k1 (g2 : se_G) (v1_53 : Int32) : se_G := (if (g2 3 7) = 0 then (F_S_takeBytes_j74 g2 v1_53) else (F_S_takeBytes_j74 (F_S_peerLeaves g2) v1_53))
def F_S_takeBytes_j53 (gj53 : se_G) (v1_53 : Int32) : se_G := (F_S_takeBytes_k1 (F_S_Incoming_goOn gj53) v1_53)
def F_S_takeBytes_k2 (g : se_G) (g1 : se_G) : se_G := (if (F_S_Segment_has_7 g 2) = 0 then (F_S_takeBytes_j53 g1 (F_S_Segment_has_7 g 2)) else (F_S_takeBytes_j53 (F_S_Incoming_noteLast g1 ((g1 7 3) + (g1 7 1))) (F_S_Segment_has_7 g 2)))
def F_S_takeBytes (g : se_G)  : se_G := (if (F_S_mayTakeBytes g) = 0 then (F_S_takeBytes_j74 g (F_S_Segment_has_7 g 2)) else (F_S_takeBytes_k2 g (F_S_Incoming_store g)))
def F_S_leave (g : se_G)  : se_G := (if (g 0 9) = 5 then (se_u g 0 9 6) else (if (g 0 9) = 8 then (F_S_halt g 10) else (if (g 0 9) = 9 then (F_S_halt g 0) else g)))
def F_S_Outgoing_thank (g : se_G) (p1 : Int32) : se_G := (se_u (se_u (se_u (se_u g 1 1 (((g 1 1) + (if (p1 - (g 1 5)) < (g 1 3) then (p1 - (g 1 5)) else (g 1 3))) &&& 2047)) 1 2 ((g 1 2) - (if (p1 - (g 1 5)) < (g 1 3) then (p1 - (g 1 5)) else (g 1 3)))) 1 3 ((g 1 3) - (if (p1 - (g 1 5)) < (g 1 3) then (p1 - (g 1 5)) else (g 1 3)))) 1 5 p1)
def F_S_Watch_learn_j70 (gj70 : se_G) : se_G := (se_u gj70 5 4 (if 20 < (if 1200 < (((gj70 5 6) / 8) + (if (gj70 5 7) < 1 then 1 else (gj70 5 7))) then 1200 else (((gj70 5 6) / 8) + (if (gj70 5 7) < 1 then 1 else (gj70 5 7)))) then (if 1200 < (((gj70 5 6) / 8) + (if (gj70 5 7) < 1 then 1 else (gj70 5 7))) then 1200 else (((gj70 5 6) / 8) + (if (gj70 5 7) < 1 then 1 else (gj70 5 7)))) else 20))
def F_S_Watch_learn (g : se_G) (p1 : Int32) : se_G := (if (g 5 5) = 0 then (F_S_Watch_learn_j70 (se_u (se_u (se_u g 5 5 1) 5 6 (8 * p1)) 5 7 (2 * p1))) else (F_S_Watch_learn_j70 (se_u (se_u g 5 6 ((g 5 6) + (p1 - ((g 5 6) / 8)))) 5 7 ((g 5 7) + ((if 0 ≤ (p1 - ((g 5 6) / 8)) then (p1 - ((g 5 6) / 8)) else 0 - (p1 - ((g 5 6) / 8))) - ((g 5 7) / 4))))))
def F_S_Watch_endMeasure (g : se_G) (p1 : Int32) : se_G := (if (g 5 8) = 0 then g else (if (F_S_isNotBehind (g 5 9) p1) = 0 then g else (F_S_Watch_learn (se_u g 5 8 0) ((g 5 0) - (g 5 10)))))
def F_S_takeThanked_k1 (g2 : se_G) : se_G := (if (F_S_Outgoing_hasUnthanked (se_u (se_u g2 5 3 0) 5 1 0)) = 0 then (se_u (se_u (se_u g2 5 3 0) 5 1 0) 6 6 0) else (se_u (F_S_Watch_setAlarm (se_u (se_u g2 5 3 0) 5 1 0)) 6 6 0))
def F_S_takeThanked_k2 (g1 : se_G) : se_G := (F_S_takeThanked_k1 (F_S_Watch_endMeasure g1 (g1 7 4)))
def F_S_takeThanked (g : se_G)  : se_G := (F_S_takeThanked_k2 (F_S_Outgoing_thank g (g 7 4)))
def F_S_answerWithReset (g : se_G)  : se_G := (if (F_S_Segment_has_7 g 4) = 0 then (if (F_S_Segment_has_7 g 8) = 0 then (F_S_Due_resetIs g 12 0 ((g 7 3) + (F_S_Segment_size_7 g))) else (F_S_Due_resetIs g 4 (g 7 4) 0)) else g)
def F_S_takeInStream_k1 (g3 : se_G) : se_G := (if (g3 0 9) = 0 then g3 else (F_S_takeBytes g3))
def F_S_takeInStream_k2 (g1 : se_G) : se_G := (if (F_S_Outgoing_lastIsThanked g1) = 0 then (if (g1 0 9) = 0 then g1 else (F_S_takeBytes g1)) else (F_S_takeInStream_k1 (F_S_leave g1)))
def F_S_takeInStream_j113 (gj113 : se_G) : se_G := (F_S_takeInStream_k2 (F_S_takeWindow gj113))
def F_S_takeInStream_j89 (gj89 : se_G) : se_G := (if (F_S_isBefore (gj89 1 5) (gj89 7 4)) = 0 then (F_S_takeInStream_j113 gj89) else (F_S_takeInStream_j113 (F_S_takeThanked gj89)))
def F_S_takeInStream (g : se_G)  : se_G := (if (g 0 9) = 3 then (if (g 7 4) = (g 1 6) then (F_S_takeInStream_j89 (se_u (se_u g 0 9 ((if (g 1 7) = 0 then 4 else 5) : Int32)) 6 4 0)) else (F_S_answerWithReset g)) else (if (F_S_isBefore (g 1 6) (g 7 4)) = 0 then (F_S_takeInStream_j89 g) else (se_u g 6 8 1)))
def F_S_takeReset_j58 (gj58 : se_G) : se_G := (if (gj58 0 9) = 8 then (F_S_halt gj58 0) else (if (gj58 0 9) = 9 then (F_S_halt gj58 0) else (if (gj58 0 9) = 10 then (F_S_halt gj58 0) else (F_S_halt gj58 11))))
def F_S_takeReset (g : se_G)  : se_G := (if (g 7 3) = (g 3 2) then (if (g 0 9) = 3 then (if (g 0 10) = 0 then (F_S_takeReset_j58 g) else (F_S_startStream g (g 1 4) 1)) else (F_S_takeReset_j58 g)) else (se_u g 6 8 1))
def F_S_takeMisfit_j19 (gj19 : se_G) : se_G := (if (gj19 0 9) = 10 then (if (F_S_Segment_has_7 gj19 2) = 0 then gj19 else (F_S_beginQuiet gj19)) else gj19)
def F_S_takeMisfit (g : se_G)  : se_G := (if (F_S_Segment_has_7 g 4) = 0 then (F_S_takeMisfit_j19 (se_u g 6 8 1)) else (F_S_takeMisfit_j19 g))
def F_S_Incoming_open (g : se_G) (p1 : Int32) : se_G := (se_u (se_u (se_u g 3 1 1) 3 2 p1) 3 4 p1)
def F_S_takeOpen_k1 (g1 : se_G) : se_G := (F_S_Outgoing_windowIs (se_u g1 1 9 (if ((if (g1 7 6) = 0 then 536 else (g1 7 6)) : Int32) < (g1 0 0) then ((if (g1 7 6) = 0 then 536 else (g1 7 6)) : Int32) else (g1 0 0))) (g1 7 5) (g1 7 3) ((if (F_S_Segment_has_7 (se_u g1 1 9 (if ((if (g1 7 6) = 0 then 536 else (g1 7 6)) : Int32) < (g1 0 0) then ((if (g1 7 6) = 0 then 536 else (g1 7 6)) : Int32) else (g1 0 0))) 8) = 0 then (g1 1 4) else (g1 7 4)) : Int32))
def F_S_takeOpen (g : se_G)  : se_G := (F_S_takeOpen_k1 (F_S_Incoming_open g ((g 7 3) + 1)))
def F_S_takeWhenAsking_k1 (v1_38 : Int32) (g1 : se_G) : se_G := (if v1_38 = 0 then (se_u (se_u g1 0 9 3) 6 4 1) else (se_u (F_S_takeThanked (se_u (se_u g1 0 9 4) 6 4 0)) 6 8 1))
def F_S_takeWhenAsking_j38 (gj38 : se_G) (v1_38 : Int32) : se_G := (if (F_S_Segment_has_7 gj38 4) = 0 then (if (F_S_Segment_has_7 gj38 1) = 0 then gj38 else (F_S_takeWhenAsking_k1 v1_38 (F_S_takeOpen gj38))) else (if v1_38 = 0 then gj38 else (F_S_halt gj38 11)))
def F_S_takeWhenAsking (g : se_G)  : se_G := (if (F_S_Segment_has_7 g 8) = 0 then (F_S_takeWhenAsking_j38 g (F_S_Segment_has_7 g 8)) else (if (g 7 4) = (g 1 6) then (F_S_takeWhenAsking_j38 g (F_S_Segment_has_7 g 8)) else (F_S_answerWithReset g)))
def F_S_takeWhenListening (g : se_G)  : se_G := (if (F_S_Segment_has_7 g 4) = 0 then (if (F_S_Segment_has_7 g 8) = 0 then (if (F_S_Segment_has_7 g 1) = 0 then g else (F_S_openIsDue (se_u (F_S_takeOpen g) 0 9 3))) else (F_S_answerWithReset g)) else g)
def F_S_takeSegment (g : se_G)  : se_G := (if (F_S_isEnded g) = 0 then (if (g 0 9) = 1 then (F_S_takeWhenListening g) else (if (g 0 9) = 2 then (F_S_takeWhenAsking g) else (if (F_S_Incoming_fits g (g 7 3) (F_S_Segment_size_7 g)) = 0 then (F_S_takeMisfit g) else (if (F_S_Segment_has_7 g 4) = 0 then (if (F_S_Segment_has_7 g 1) = 0 then (if (F_S_Segment_has_7 g 8) = 0 then g else (F_S_takeInStream g)) else (se_u g 6 8 1)) else (F_S_takeReset g))))) else (F_S_answerWithReset g))
def F_S_arrive_k1 (g3 : se_G) : Int32 × Int32 × se_G := (0, (g3 0 9), g3)
def F_S_arrive (g : se_G) (p1 : Int32) (p2 : Int32) (p3 : Int32) (p4 : Int32) (p5 : Int32) : Int32 × Int32 × se_G := (if p1 < 0 then (1, 0, g) else (if 15 < p1 then (1, 0, g) else (if (F_S_isWidth p4) = 0 then (1, 0, g) else (if (F_S_isWidth p5) = 0 then (1, 0, g) else (F_S_arrive_k1 (F_S_watchClosedWindow (se_u (F_S_takeSegment (F_S_Segment_headIs_7 g p1 p2 p3 p4 p5)) 7 1 0)))))))
def F_S_state (g : se_G)  : Int32 := (g 0 9)
def F_S_figure (g : se_G) (p1 : Int32) : Int32 × Int32 × se_G := (if p1 = 0 then (0, (g 1 5), g) else (if p1 = 1 then (0, (g 1 6), g) else (if p1 = 2 then (0, (g 1 10), g) else (if p1 = 3 then (0, (g 3 2), g) else (if p1 = 4 then (0, (F_S_Incoming_room g), g) else (if p1 = 5 then (0, (g 5 4), g) else (if p1 = 6 then (0, (g 1 2), g) else (if p1 = 7 then (0, (g 3 3), g) else (if p1 = 8 then (0, (g 5 3), g) else (if p1 = 9 then (0, (g 1 9), g) else (if p1 = 10 then (0, (g 5 6), g) else (if p1 = 11 then (0, (g 5 7), g) else (if p1 = 12 then (0, (F_S_Watch_ticksToAlarm g), g) else (1, 0, g))))))))))))))
def se_WS (k : Nat → ClassId) (h : Nat → Nat) (g : se_G) : va_W := [(h 0, .inr (5, [.int (g 0 0), .int (g 0 1), .ref (h 1), .ref (h 3), .ref (h 5), .ref (h 6), .ref (h 7), .ref (h 9), .int (g 0 8), .int (g 0 9), .int (g 0 10), .int (g 0 11)])),
  (h 1, .inr (2, [.ref (h 2), .int (g 1 1), .int (g 1 2), .int (g 1 3), .int (g 1 4), .int (g 1 5), .int (g 1 6), .int (g 1 7), .int (g 1 8), .int (g 1 9), .int (g 1 10), .int (g 1 11), .int (g 1 12)])),
  (h 2, .inl (k 2, 2048, .inl (g 2))),
  (h 3, .inr (1, [.ref (h 4), .int (g 3 1), .int (g 3 2), .int (g 3 3), .int (g 3 4), .int (g 3 5), .int (g 3 6), .int (g 3 7)])),
  (h 4, .inl (k 4, 2048, .inl (g 4))),
  (h 5, .inr (4, [.int (g 5 0), .int (g 5 1), .int (g 5 2), .int (g 5 3), .int (g 5 4), .int (g 5 5), .int (g 5 6), .int (g 5 7), .int (g 5 8), .int (g 5 9), .int (g 5 10)])),
  (h 6, .inr (0, [.int (g 6 0), .int (g 6 1), .int (g 6 2), .int (g 6 3), .int (g 6 4), .int (g 6 5), .int (g 6 6), .int (g 6 7), .int (g 6 8)])),
  (h 7, .inr (3, [.ref (h 8), .int (g 7 1), .int (g 7 2), .int (g 7 3), .int (g 7 4), .int (g 7 5), .int (g 7 6)])),
  (h 8, .inl (k 8, 1460, .inl (g 8))),
  (h 9, .inr (3, [.ref (h 10), .int (g 9 1), .int (g 9 2), .int (g 9 3), .int (g 9 4), .int (g 9 5), .int (g 9 6)])),
  (h 10, .inl (k 10, 1460, .inl (g 10)))]
theorem kp_windowIs (g : se_G) (a b c : Int32) : F_S_Outgoing_windowIs g a b c 7 1 = g 7 1 := rfl
theorem kp_takeWindow (g : se_G) : F_S_takeWindow g 7 1 = g 7 1 := by
  unfold F_S_takeWindow F_S_takeWindow_k1 F_S_takeWindow_j119 F_S_Outgoing_windowIs
  repeat' split
  all_goals rfl
theorem kp_halt (g : se_G) (a : Int32) : F_S_halt g a 7 1 = g 7 1 := by
  unfold F_S_halt F_S_halt_k1 F_S_Due_dropStream F_S_beginQuiet
  repeat' split
  all_goals rfl
theorem kp_leave (g : se_G) : F_S_leave g 7 1 = g 7 1 := by
  unfold F_S_leave
  repeat' split
  all_goals first | rfl | exact kp_halt _ _
theorem kp_learn (g : se_G) (a : Int32) : F_S_Watch_learn g a 7 1 = g 7 1 := by
  unfold F_S_Watch_learn F_S_Watch_learn_j70
  repeat' split
  all_goals rfl
theorem kp_endMeasure (g : se_G) (a : Int32) : F_S_Watch_endMeasure g a 7 1 = g 7 1 := by
  unfold F_S_Watch_endMeasure
  repeat' split
  all_goals first | rfl | exact kp_learn _ _
theorem kp_takeThanked (g : se_G) : F_S_takeThanked g 7 1 = g 7 1 := by
  unfold F_S_takeThanked F_S_takeThanked_k2 F_S_takeThanked_k1
  repeat' split
  all_goals first | exact kp_endMeasure _ _ | rfl
