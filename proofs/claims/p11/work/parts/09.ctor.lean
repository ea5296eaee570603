/-! written by program (wip/gen) -/
theorem qX0_m1 : (Jvm.Cond.methodLink "StreamEnd$Due" (1 : Nat) ({ cls := "java/lang/Object", name := "<init>", desc := "()V" } : Jvm.MethodName)) ∈ se_all := se_in 172 (by decide +kernel) (by decide +kernel)
theorem q_inst_obj : (Jvm.Cond.instanceMethod ({ cls := "java/lang/Object", name := "<init>", desc := "()V" } : Jvm.MethodName)) ∈ se_all := se_in 22 (by decide +kernel) (by decide +kernel)
theorem q_code_obj : (Jvm.Cond.code ({ cls := "java/lang/Object", name := "<init>", desc := "()V" } : Jvm.MethodName) object_method_1_code (1 : Nat) (Option.none : Option Jvm.ClassFile.FieldType)) ∈ se_all := se_in 23 (by decide +kernel) (by decide +kernel)
theorem qX4_m1 : (Jvm.Cond.methodLink "StreamEnd$Watch" (1 : Nat) ({ cls := "java/lang/Object", name := "<init>", desc := "()V" } : Jvm.MethodName)) ∈ se_all := se_in 124 (by decide +kernel) (by decide +kernel)
theorem qX3_m3 : (Jvm.Cond.methodLink "StreamEnd$Segment" (3 : Nat) ({ cls := "java/lang/Object", name := "<init>", desc := "()V" } : Jvm.MethodName)) ∈ se_all := se_in 215 (by decide +kernel) (by decide +kernel)
theorem q_arr_byte : (Jvm.Cond.arrayClass Jvm.ClassFile.FieldType.byte) ∈ se_all := se_in 79 (by decide +kernel) (by decide +kernel)
theorem qX2_m3 : (Jvm.Cond.methodLink "StreamEnd$Outgoing" (3 : Nat) ({ cls := "java/lang/Object", name := "<init>", desc := "()V" } : Jvm.MethodName)) ∈ se_all := se_in 29 (by decide +kernel) (by decide +kernel)
theorem qX1_m3 : (Jvm.Cond.methodLink "StreamEnd$Incoming" (3 : Nat) ({ cls := "java/lang/Object", name := "<init>", desc := "()V" } : Jvm.MethodName)) ∈ se_all := se_in 85 (by decide +kernel) (by decide +kernel)
theorem q_arr_int : (Jvm.Cond.arrayClass Jvm.ClassFile.FieldType.int) ∈ se_all := se_in 118 (by decide +kernel) (by decide +kernel)
theorem qX5_m3 : (Jvm.Cond.methodLink "StreamEnd" (3 : Nat) ({ cls := "java/lang/Object", name := "<init>", desc := "()V" } : Jvm.MethodName)) ∈ se_all := se_in 21 (by decide +kernel) (by decide +kernel)
theorem qX5_c16 : (Jvm.Cond.classLink "StreamEnd" (16 : Nat) "StreamEnd$Outgoing") ∈ se_all := se_in 24 (by decide +kernel) (by decide +kernel)
theorem q_inst_X2 : (Jvm.Cond.instantiable "StreamEnd$Outgoing" (13 : Nat)) ∈ se_all := se_in 25 (by decide +kernel) (by decide +kernel)
theorem q_code_X2_init : (Jvm.Cond.code ({ cls := "StreamEnd$Outgoing", name := "<init>", desc := "(I)V" } : Jvm.MethodName) prog_4_method_1_code (2 : Nat) (Option.none : Option Jvm.ClassFile.FieldType)) ∈ se_all := se_in 28 (by decide +kernel) (by decide +kernel)
theorem q_instanceMethod_X2_init : (Jvm.Cond.instanceMethod ({ cls := "StreamEnd$Outgoing", name := "<init>", desc := "(I)V" } : Jvm.MethodName)) ∈ se_all := se_in 27 (by decide +kernel) (by decide +kernel)
theorem qX5_m18 : (Jvm.Cond.methodLink "StreamEnd" (18 : Nat) ({ cls := "StreamEnd$Outgoing", name := "<init>", desc := "(I)V" } : Jvm.MethodName)) ∈ se_all := se_in 26 (by decide +kernel) (by decide +kernel)
theorem qX5_c25 : (Jvm.Cond.classLink "StreamEnd" (25 : Nat) "StreamEnd$Incoming") ∈ se_all := se_in 80 (by decide +kernel) (by decide +kernel)
theorem q_inst_X1 : (Jvm.Cond.instantiable "StreamEnd$Incoming" (8 : Nat)) ∈ se_all := se_in 81 (by decide +kernel) (by decide +kernel)
theorem q_code_X1_init : (Jvm.Cond.code ({ cls := "StreamEnd$Incoming", name := "<init>", desc := "()V" } : Jvm.MethodName) prog_3_method_1_code (1 : Nat) (Option.none : Option Jvm.ClassFile.FieldType)) ∈ se_all := se_in 84 (by decide +kernel) (by decide +kernel)
theorem q_instanceMethod_X1_init : (Jvm.Cond.instanceMethod ({ cls := "StreamEnd$Incoming", name := "<init>", desc := "()V" } : Jvm.MethodName)) ∈ se_all := se_in 83 (by decide +kernel) (by decide +kernel)
theorem qX5_m27 : (Jvm.Cond.methodLink "StreamEnd" (27 : Nat) ({ cls := "StreamEnd$Incoming", name := "<init>", desc := "()V" } : Jvm.MethodName)) ∈ se_all := se_in 82 (by decide +kernel) (by decide +kernel)
theorem qX5_c32 : (Jvm.Cond.classLink "StreamEnd" (32 : Nat) "StreamEnd$Watch") ∈ se_all := se_in 119 (by decide +kernel) (by decide +kernel)
theorem q_inst_X4 : (Jvm.Cond.instantiable "StreamEnd$Watch" (11 : Nat)) ∈ se_all := se_in 120 (by decide +kernel) (by decide +kernel)
theorem q_code_X4_init : (Jvm.Cond.code ({ cls := "StreamEnd$Watch", name := "<init>", desc := "()V" } : Jvm.MethodName) prog_6_method_1_code (1 : Nat) (Option.none : Option Jvm.ClassFile.FieldType)) ∈ se_all := se_in 123 (by decide +kernel) (by decide +kernel)
theorem q_instanceMethod_X4_init : (Jvm.Cond.instanceMethod ({ cls := "StreamEnd$Watch", name := "<init>", desc := "()V" } : Jvm.MethodName)) ∈ se_all := se_in 122 (by decide +kernel) (by decide +kernel)
theorem qX5_m34 : (Jvm.Cond.methodLink "StreamEnd" (34 : Nat) ({ cls := "StreamEnd$Watch", name := "<init>", desc := "()V" } : Jvm.MethodName)) ∈ se_all := se_in 121 (by decide +kernel) (by decide +kernel)
theorem qX5_c39 : (Jvm.Cond.classLink "StreamEnd" (39 : Nat) "StreamEnd$Due") ∈ se_all := se_in 167 (by decide +kernel) (by decide +kernel)
theorem q_inst_X0 : (Jvm.Cond.instantiable "StreamEnd$Due" (9 : Nat)) ∈ se_all := se_in 168 (by decide +kernel) (by decide +kernel)
theorem q_code_X0_init : (Jvm.Cond.code ({ cls := "StreamEnd$Due", name := "<init>", desc := "()V" } : Jvm.MethodName) prog_2_method_1_code (1 : Nat) (Option.none : Option Jvm.ClassFile.FieldType)) ∈ se_all := se_in 171 (by decide +kernel) (by decide +kernel)
theorem q_instanceMethod_X0_init : (Jvm.Cond.instanceMethod ({ cls := "StreamEnd$Due", name := "<init>", desc := "()V" } : Jvm.MethodName)) ∈ se_all := se_in 170 (by decide +kernel) (by decide +kernel)
theorem qX5_c46 : (Jvm.Cond.classLink "StreamEnd" (46 : Nat) "StreamEnd$Segment") ∈ se_all := se_in 210 (by decide +kernel) (by decide +kernel)
theorem q_inst_X3 : (Jvm.Cond.instantiable "StreamEnd$Segment" (7 : Nat)) ∈ se_all := se_in 211 (by decide +kernel) (by decide +kernel)
theorem q_code_X3_init : (Jvm.Cond.code ({ cls := "StreamEnd$Segment", name := "<init>", desc := "()V" } : Jvm.MethodName) prog_5_method_1_code (1 : Nat) (Option.none : Option Jvm.ClassFile.FieldType)) ∈ se_all := se_in 214 (by decide +kernel) (by decide +kernel)
theorem q_instanceMethod_X3_init : (Jvm.Cond.instanceMethod ({ cls := "StreamEnd$Segment", name := "<init>", desc := "()V" } : Jvm.MethodName)) ∈ se_all := se_in 213 (by decide +kernel) (by decide +kernel)
theorem qX5_m48 : (Jvm.Cond.methodLink "StreamEnd" (48 : Nat) ({ cls := "StreamEnd$Segment", name := "<init>", desc := "()V" } : Jvm.MethodName)) ∈ se_all := se_in 212 (by decide +kernel) (by decide +kernel)
theorem dX0_init_0 : decode cX0_init 0 = .ok (.aload_n 0, 1) := by decide +kernel
theorem dX0_init_1 : decode cX0_init 1 = .ok (.invokespecial 1, 3) := by decide +kernel
theorem dX0_init_4 : decode cX0_init 4 = .ok (.return_, 1) := by decide +kernel
theorem dX4_init_0 : decode cX4_init 0 = .ok (.aload_n 0, 1) := by decide +kernel
theorem dX4_init_1 : decode cX4_init 1 = .ok (.invokespecial 1, 3) := by decide +kernel
theorem dX4_init_4 : decode cX4_init 4 = .ok (.aload_n 0, 1) := by decide +kernel
theorem dX4_init_5 : decode cX4_init 5 = .ok (.bipush 60, 2) := by decide +kernel
theorem dX4_init_7 : decode cX4_init 7 = .ok (.putfield 9, 3) := by decide +kernel
theorem dX4_init_10 : decode cX4_init 10 = .ok (.return_, 1) := by decide +kernel
theorem dX3_init_0 : decode cX3_init 0 = .ok (.aload_n 0, 1) := by decide +kernel
theorem dX3_init_1 : decode cX3_init 1 = .ok (.invokespecial 3, 3) := by decide +kernel
theorem dX3_init_4 : decode cX3_init 4 = .ok (.aload_n 0, 1) := by decide +kernel
theorem dX3_init_5 : decode cX3_init 5 = .ok (.sipush 1460, 3) := by decide +kernel
theorem dX3_init_8 : decode cX3_init 8 = .ok (.newarray .byte, 2) := by decide +kernel
theorem dX3_init_10 : decode cX3_init 10 = .ok (.putfield 9, 3) := by decide +kernel
theorem dX3_init_13 : decode cX3_init 13 = .ok (.return_, 1) := by decide +kernel
theorem dX2_init_0 : decode cX2_init 0 = .ok (.aload_n 0, 1) := by decide +kernel
theorem dX2_init_1 : decode cX2_init 1 = .ok (.invokespecial 3, 3) := by decide +kernel
theorem dX2_init_4 : decode cX2_init 4 = .ok (.aload_n 0, 1) := by decide +kernel
theorem dX2_init_5 : decode cX2_init 5 = .ok (.sipush 2048, 3) := by decide +kernel
theorem dX2_init_8 : decode cX2_init 8 = .ok (.newarray .byte, 2) := by decide +kernel
theorem dX2_init_10 : decode cX2_init 10 = .ok (.putfield 9, 3) := by decide +kernel
theorem dX2_init_13 : decode cX2_init 13 = .ok (.aload_n 0, 1) := by decide +kernel
theorem dX2_init_14 : decode cX2_init 14 = .ok (.iload_n 1, 1) := by decide +kernel
theorem dX2_init_15 : decode cX2_init 15 = .ok (.putfield 15, 3) := by decide +kernel
theorem dX2_init_18 : decode cX2_init 18 = .ok (.return_, 1) := by decide +kernel
theorem dX1_init_0 : decode cX1_init 0 = .ok (.aload_n 0, 1) := by decide +kernel
theorem dX1_init_1 : decode cX1_init 1 = .ok (.invokespecial 3, 3) := by decide +kernel
theorem dX1_init_4 : decode cX1_init 4 = .ok (.aload_n 0, 1) := by decide +kernel
theorem dX1_init_5 : decode cX1_init 5 = .ok (.sipush 2048, 3) := by decide +kernel
theorem dX1_init_8 : decode cX1_init 8 = .ok (.newarray .int, 2) := by decide +kernel
theorem dX1_init_10 : decode cX1_init 10 = .ok (.putfield 9, 3) := by decide +kernel
theorem dX1_init_13 : decode cX1_init 13 = .ok (.aload_n 0, 1) := by decide +kernel
theorem dX1_init_14 : decode cX1_init 14 = .ok (.getfield 9, 3) := by decide +kernel
theorem dX1_init_17 : decode cX1_init 17 = .ok (.iconst (-1), 1) := by decide +kernel
theorem dX1_init_18 : decode cX1_init 18 = .ok (.invokestatic 15, 3) := by decide +kernel
theorem dX1_init_21 : decode cX1_init 21 = .ok (.return_, 1) := by decide +kernel
theorem dX5_init_0 : decode cX5_init 0 = .ok (.aload_n 0, 1) := by decide +kernel
theorem dX5_init_1 : decode cX5_init 1 = .ok (.invokespecial 3, 3) := by decide +kernel
theorem dX5_init_4 : decode cX5_init 4 = .ok (.aload_n 0, 1) := by decide +kernel
theorem dX5_init_5 : decode cX5_init 5 = .ok (.iload_n 1, 1) := by decide +kernel
theorem dX5_init_6 : decode cX5_init 6 = .ok (.iconst 1, 1) := by decide +kernel
theorem dX5_init_7 : decode cX5_init 7 = .ok (.if_icmp .lt 14, 3) := by decide +kernel
theorem dX5_init_10 : decode cX5_init 10 = .ok (.iload_n 1, 1) := by decide +kernel
theorem dX5_init_11 : decode cX5_init 11 = .ok (.sipush 1460, 3) := by decide +kernel
theorem dX5_init_14 : decode cX5_init 14 = .ok (.if_icmp .gt 7, 3) := by decide +kernel
theorem dX5_init_17 : decode cX5_init 17 = .ok (.iload_n 1, 1) := by decide +kernel
theorem dX5_init_18 : decode cX5_init 18 = .ok (.goto 6, 3) := by decide +kernel
theorem dX5_init_21 : decode cX5_init 21 = .ok (.sipush 536, 3) := by decide +kernel
theorem dX5_init_24 : decode cX5_init 24 = .ok (.putfield 9, 3) := by decide +kernel
theorem dX5_init_27 : decode cX5_init 27 = .ok (.aload_n 0, 1) := by decide +kernel
theorem dX5_init_28 : decode cX5_init 28 = .ok (.iload_n 2, 1) := by decide +kernel
theorem dX5_init_29 : decode cX5_init 29 = .ok (.iconst 1, 1) := by decide +kernel
theorem dX5_init_30 : decode cX5_init 30 = .ok (.if_icmp .lt 14, 3) := by decide +kernel
theorem dX5_init_33 : decode cX5_init 33 = .ok (.iload_n 2, 1) := by decide +kernel
theorem dX5_init_34 : decode cX5_init 34 = .ok (.sipush 4000, 3) := by decide +kernel
theorem dX5_init_37 : decode cX5_init 37 = .ok (.if_icmp .gt 7, 3) := by decide +kernel
theorem dX5_init_40 : decode cX5_init 40 = .ok (.iload_n 2, 1) := by decide +kernel
theorem dX5_init_41 : decode cX5_init 41 = .ok (.goto 6, 3) := by decide +kernel
theorem dX5_init_44 : decode cX5_init 44 = .ok (.sipush 2000, 3) := by decide +kernel
theorem dX5_init_47 : decode cX5_init 47 = .ok (.putfield 13, 3) := by decide +kernel
theorem dX5_init_50 : decode cX5_init 50 = .ok (.aload_n 0, 1) := by decide +kernel
theorem dX5_init_51 : decode cX5_init 51 = .ok (.new 16, 3) := by decide +kernel
theorem dX5_init_54 : decode cX5_init 54 = .ok (.dup, 1) := by decide +kernel
theorem dX5_init_55 : decode cX5_init 55 = .ok (.aload_n 0, 1) := by decide +kernel
theorem dX5_init_56 : decode cX5_init 56 = .ok (.getfield 9, 3) := by decide +kernel
theorem dX5_init_59 : decode cX5_init 59 = .ok (.invokespecial 18, 3) := by decide +kernel
theorem dX5_init_62 : decode cX5_init 62 = .ok (.putfield 21, 3) := by decide +kernel
theorem dX5_init_65 : decode cX5_init 65 = .ok (.aload_n 0, 1) := by decide +kernel
theorem dX5_init_66 : decode cX5_init 66 = .ok (.new 25, 3) := by decide +kernel
theorem dX5_init_69 : decode cX5_init 69 = .ok (.dup, 1) := by decide +kernel
theorem dX5_init_70 : decode cX5_init 70 = .ok (.invokespecial 27, 3) := by decide +kernel
theorem dX5_init_73 : decode cX5_init 73 = .ok (.putfield 28, 3) := by decide +kernel
theorem dX5_init_76 : decode cX5_init 76 = .ok (.aload_n 0, 1) := by decide +kernel
theorem dX5_init_77 : decode cX5_init 77 = .ok (.new 32, 3) := by decide +kernel
theorem dX5_init_80 : decode cX5_init 80 = .ok (.dup, 1) := by decide +kernel
theorem dX5_init_81 : decode cX5_init 81 = .ok (.invokespecial 34, 3) := by decide +kernel
theorem dX5_init_84 : decode cX5_init 84 = .ok (.putfield 35, 3) := by decide +kernel
theorem dX5_init_87 : decode cX5_init 87 = .ok (.aload_n 0, 1) := by decide +kernel
theorem dX5_init_88 : decode cX5_init 88 = .ok (.new 39, 3) := by decide +kernel
theorem dX5_init_91 : decode cX5_init 91 = .ok (.dup, 1) := by decide +kernel
theorem dX5_init_92 : decode cX5_init 92 = .ok (.invokespecial 41, 3) := by decide +kernel
theorem dX5_init_95 : decode cX5_init 95 = .ok (.putfield 42, 3) := by decide +kernel
theorem dX5_init_98 : decode cX5_init 98 = .ok (.aload_n 0, 1) := by decide +kernel
theorem dX5_init_99 : decode cX5_init 99 = .ok (.new 46, 3) := by decide +kernel
theorem dX5_init_102 : decode cX5_init 102 = .ok (.dup, 1) := by decide +kernel
theorem dX5_init_103 : decode cX5_init 103 = .ok (.invokespecial 48, 3) := by decide +kernel
theorem dX5_init_106 : decode cX5_init 106 = .ok (.putfield 49, 3) := by decide +kernel
theorem dX5_init_109 : decode cX5_init 109 = .ok (.aload_n 0, 1) := by decide +kernel
theorem dX5_init_110 : decode cX5_init 110 = .ok (.new 46, 3) := by decide +kernel
theorem dX5_init_113 : decode cX5_init 113 = .ok (.dup, 1) := by decide +kernel
theorem dX5_init_114 : decode cX5_init 114 = .ok (.invokespecial 48, 3) := by decide +kernel
theorem dX5_init_117 : decode cX5_init 117 = .ok (.putfield 53, 3) := by decide +kernel
theorem dX5_init_120 : decode cX5_init 120 = .ok (.aload_n 0, 1) := by decide +kernel
theorem dX5_init_121 : decode cX5_init 121 = .ok (.iconst 0, 1) := by decide +kernel
theorem dX5_init_122 : decode cX5_init 122 = .ok (.putfield 56, 3) := by decide +kernel
theorem dX5_init_125 : decode cX5_init 125 = .ok (.aload_n 0, 1) := by decide +kernel
theorem dX5_init_126 : decode cX5_init 126 = .ok (.iconst 0, 1) := by decide +kernel
theorem dX5_init_127 : decode cX5_init 127 = .ok (.putfield 60, 3) := by decide +kernel
theorem dX5_init_130 : decode cX5_init 130 = .ok (.aload_n 0, 1) := by decide +kernel
theorem dX5_init_131 : decode cX5_init 131 = .ok (.iconst 0, 1) := by decide +kernel
theorem dX5_init_132 : decode cX5_init 132 = .ok (.putfield 63, 3) := by decide +kernel
theorem dX5_init_135 : decode cX5_init 135 = .ok (.aload_n 0, 1) := by decide +kernel
theorem dX5_init_136 : decode cX5_init 136 = .ok (.iconst 0, 1) := by decide +kernel
theorem dX5_init_137 : decode cX5_init 137 = .ok (.putfield 66, 3) := by decide +kernel
theorem dX5_init_140 : decode cX5_init 140 = .ok (.return_, 1) := by decide +kernel
def F_A_Arrays_fill_j5 : Nat → se_G → Int32 → Int32 → Int32 → se_G
  | 0, gj5, _, _, _ => gj5
  | n + 1, gj5, v1_5, v2_5, v3_5 => (if v3_5 ≤ v2_5 then gj5 else (F_A_Arrays_fill_j5 n (se_u gj5 0 (Int32.toNatClampNeg v2_5) v1_5) v1_5 (v2_5 + 1) v3_5))
def F_A_Arrays_fill (g : se_G) (p1 : Int32) : se_G := (F_A_Arrays_fill_j5 ((((2048) : Int32).toInt - ((0) : Int32).toInt).toNat + 1) g p1 0 2048)
def se_WA (k : Nat → ClassId) (h : Nat → Nat) (g : se_G) : va_W := [(h 0, .inl (k 0, 2048, .inl (g 0)))]
set_option maxRecDepth 100000 in
set_option maxHeartbeats 4000000 in
theorem c_A_Arrays_fill (l : Launch) (D : va_G) (k : Nat → ClassId) (h : Nat → Nat) (sz : Nat) (g : se_G) (p1 : Int32) : Met l yXA_fill (se_w_XA_fill) ({ frames := 0, cells := 0, slots := 0, locals := 0 }) (va_Pc [.ref (h 0), .int p1] (se_Pre D se_cl [(k 0, .int)] (se_WA k h g) se_ZN sz)) (se_Qv D se_cl [(k 0, .int)] (se_WA k h) (F_A_Arrays_fill g p1) (va_A (se_WA k h g) sz)) 0 0 (va_A (se_WA k h g) sz) := by
  refine se_met (Qc := se_Qv D se_cl [(k 0, .int)] (se_WA k h) (F_A_Arrays_fill g p1)) (cc := cXA_fill) (maxL := 4) (ret := none) (by decide) rfl (Nat.le_of_ble_eq_true rfl) ?_
  intro p e s m below meth c ls A hx hb hr hts hown hlocks hml hA hP hK hD hS hZ hl
  replace hl : lv_has ls 4 [(0, .ref (h 0)), (1, .int p1)] := hl
  have L5 : ∀ (n : Nat) (gj5 : se_G) (v1_5 : Int32) (v2_5 : Int32) (v3_5 : Int32) (H : Heap) (locs : List Loc) (ls : Array Slot), (0 ≤ (v2_5).toInt ∧ v3_5 = 2048) → ((v3_5).toInt - (v2_5).toInt).toNat < n → F_A_Arrays_fill_j5 n gj5 v1_5 v2_5 v3_5 = F_A_Arrays_fill g p1 → va_P D se_cl (se_WA k h gj5) H → va_D A (se_WA k h gj5) → va_S A s.heap H locs → lv_has ls 4 [(0, .ref (h 0)), (1, .int v1_5), (2, .int v2_5), (3, .int v3_5)] → W p l e ({ frames := 0, cells := 0, slots := 0, locals := 0 }) s m [.ref (h 0), .int p1].toArray below meth c H locs 0 0 (MQ below (se_Qv D se_cl [(k 0, .int)] (se_WA k h) (F_A_Arrays_fill g p1) A) [.ref (h 0), .int p1].toArray s 0 0 A) (F0 m 5 ls []) := by
    intro n
    induction n with
    | zero => intro gj5 v1_5 v2_5 v3_5 H locs ls hI hM; exact absurd hM (Nat.not_lt_zero _)
    | succ n ih =>
      intro gj5 v1_5 v2_5 v3_5 H locs ls hI hM hF hP hD hS hl
      refine lv_iload_n hx hb dXA_fill_5 rfl (lv_at hl 2 rfl) ?_
      refine lv_iload_n hx hb dXA_fill_6 rfl (lv_at hl 3 rfl) ?_
      refine lv_icmp_ge (tgt := 20) hx hb dXA_fill_7 (by decide) (fun c1 => ?_) (fun c1 => ?_)
      · exact se_rv hx hb hr hlocks hK hP hD hS dXA_fill_20 (by rw [← hF, F_A_Arrays_fill_j5, if_pos c1])
      · refine lv_aload_n hx hb dXA_fill_10 rfl (lv_at hl 0 rfl) ?_
        refine lv_iload_n hx hb dXA_fill_11 rfl (lv_at hl 2 rfl) ?_
        refine lv_iload_n hx hb dXA_fill_12 rfl (lv_at hl 1 rfl) ?_
        refine va_iast hx hb hK hP hD hS 0 0 rfl rfl (se_inN (N := 2048) (by decide) (se_nn hI.1) (hI.2 ▸ c1)) dXA_fill_13 (fun H locs hP hD hS => ?_)
        replace hP : va_P D se_cl (se_WA k h (se_u gj5 0 (Int32.toNatClampNeg v2_5) v1_5)) H := hP
        replace hD : va_D A (se_WA k h (se_u gj5 0 (Int32.toNatClampNeg v2_5) v1_5)) := hD
        refine lv_iinc (v := (v2_5 + 1)) (lv' := [(2, .int (v2_5 + 1)), (0, .ref (h 0)), (1, .int v1_5), (3, .int v3_5)]) hx hb dXA_fill_14 hl (k := 2) rfl rfl (by decide) rfl (fun ls hl => ?_)
        refine lv_goto (tgt := 5) hx hb dXA_fill_17 (by decide) ?_
        exact ih (se_u gj5 0 (Int32.toNatClampNeg v2_5) v1_5) v1_5 (v2_5 + 1) v3_5 _ _ ls ⟨se_inc0 c1 hI.1, hI.2⟩ (se_dec c1 hM) (by rw [← hF, F_A_Arrays_fill_j5, if_neg c1]) hP hD hS (lv_sub hl [1, 2, 0, 3] rfl)
  have hF : F_A_Arrays_fill g p1 = F_A_Arrays_fill g p1 := rfl
  refine lv_iconst (v := 0) hx hb dXA_fill_0 (by decide) ?_
  refine lv_istore_n (lv' := [(2, .int 0), (0, .ref (h 0)), (1, .int p1)]) hx hb dXA_fill_1 rfl hl (by decide) rfl (fun ls hl => ?_)
  refine lv_aload_n hx hb dXA_fill_2 rfl (lv_at hl 1 rfl) ?_
  refine va_alen hx hb hK hP 0 0 rfl rfl (v := 2048) rfl dXA_fill_3 ?_
  refine lv_istore_n (lv' := [(3, .int 2048), (2, .int 0), (0, .ref (h 0)), (1, .int p1)]) hx hb dXA_fill_4 rfl hl (by decide) rfl (fun ls hl => ?_)
  exact L5 ((((2048) : Int32).toInt - ((0) : Int32).toInt).toNat + 1) g p1 0 2048 _ _ ls ⟨by decide, rfl⟩ (se_fuel _ _) (by rw [F_A_Arrays_fill]) hP hD hS (lv_sub hl [2, 3, 1, 0] rfl)
theorem se_metI {l : Launch} {y : MethodName} {ws ws' : List Cond} {rm : Room} {Qc : (Nat → Prop) → Array Value → State → Outcome → State → Prop} {mc ms : Nat} {cc : ByteArray} {maxL : Nat} {ret : Option FieldType} {av : List Value} {D : va_G} {cl : List vw_C} {tys : List (ClassId × FieldType)} {w : va_W} {Z : State → Prop} {sz : Nat}
    (hy : plainName y.cls = true) (hw : ws = Cond.code y cc maxL ret :: ws') (hlen : (lg_sl av).length ≤ maxL)
    (body : ∀ (p : Program) (e : Env) (s : State) (m : MethodId) (below : List Frame) (meth : Method) (c : Code) (ls : Array Slot) (A : Nat → Prop),
      p.tables.exec = Jvm.exec → c.code = cc → meth.sig.returnType = ret → (∀ w ∈ ws, w.before av.toArray s = true) → s.vm.findClass y.cls = some m.cls → meth.locks = false → c.maxLocals = maxL → meth.name = y.name →
      (∀ q : Nat, s.heap.size ≤ q → A q) → va_P D cl w s.heap → va_K D cl tys s → va_D A w → va_S A s.heap s.heap [] → Z s → lv_has ls maxL (lv_args 0 av) →
      W p l e rm s m av.toArray below meth c s.heap [] 0 0 (MQ below (Qc A) av.toArray s mc ms A) (F0 m 0 ls [])) :
    Met l y ws rm (va_Pc av (se_Pre D cl tys w Z sz)) (Qc (va_A w sz)) mc ms (va_A w sz) := by
  refine Met.ofW (cc := cc) (maxL := maxL) (ret := ret) hy hw ?_
  intro p e s m args below meth c s₁ B hml hv
  obtain ⟨rfl, hsz, hP, hK, hD0, hZ⟩ := hv
  subst hsz
  have hl := lv_entry av (n := maxL) hlen
  rw [lg_entry_eq]
  exact body p e s m below meth c _ (va_A w s.heap.size) B.exec B.bytes B.returns (atoms_spec (ws := ws) B.pre) (findClass_of_methodNamed B.named) B.notSynchronized hml (name_of_methodNamed B.named B.method).1 (fun q h => Or.inr h) hP hK hD0.self va_S.rf hZ hl
section SEI
variable {R : Room} {s : State} {args : Array Value} {own C host : String} {index maxL : Nat} {y : MethodName} {bytes : ByteArray} {rm : Room} {a0 : Cond} {mc ms : Nat}
theorem se_kI (n : Nat) (hts : ∀ w ∈ a0 :: se_all, w.before args s = true) (hc : Cond.code y bytes maxL none ∈ se_all) (hl : Cond.methodLink own index y ∈ se_all) (hi : Cond.initialized C ∈ se_all) (hin : Cond.instanceMethod y ∈ se_all) (hy1 : y.name = "<init>")
    (hd : y.cls = C ∧ y.cls ≠ "java/lang/invoke/MethodHandle" ∧ y.cls ≠ "java/lang/invoke/VarHandle" ∧ (parseMethodDescriptor y.desc).map (fun d => d.parameters.length) = some n) (hR : rm.frames + 1 ≤ R.frames ∧ 8 + (maxL + 11) + rm.locals ≤ R.locals) (hrc : rm.cells = mc) (hrs : rm.slots = ms) :
    CallB R s args own index y bytes maxL none (Cond.code y bytes maxL none :: se_all) rm mc ms n ∧ y.name = "<init>" ∧ (Cond.instanceMethod y).before args s = true := by
  have t : ∀ w ∈ se_all, w.before args s = true := fun w h => hts w (List.mem_cons_of_mem _ h)
  obtain ⟨hC, hd⟩ := hd
  subst hC
  exact ⟨callB_of n hts (se_gi hc) rfl hrc hrs (t _ hi) (t _ hl) hd hR, hy1, t _ hin⟩
theorem se_kIN (n : Nat) (hts : ∀ w ∈ a0 :: se_all, w.before args s = true) (hc : Cond.code y bytes maxL none ∈ se_all) (hl : va_Nw (.methodLinkNest own index y host) s) (hi : Cond.initialized C ∈ se_all) (hin : Cond.instanceMethod y ∈ se_all) (hy1 : y.name = "<init>")
    (hd : y.cls = C ∧ y.cls ≠ "java/lang/invoke/MethodHandle" ∧ y.cls ≠ "java/lang/invoke/VarHandle" ∧ (parseMethodDescriptor y.desc).map (fun d => d.parameters.length) = some n) (hR : rm.frames + 1 ≤ R.frames ∧ 8 + (maxL + 11) + rm.locals ≤ R.locals) (hrc : rm.cells = mc) (hrs : rm.slots = ms) :
    va_CN R s args own index y host bytes maxL none (Cond.code y bytes maxL none :: se_all) rm mc ms n ∧ y.name = "<init>" ∧ (Cond.instanceMethod y).before args s = true := by
  have t : ∀ w ∈ se_all, w.before args s = true := fun w h => hts w (List.mem_cons_of_mem _ h)
  obtain ⟨hC, hd⟩ := hd
  subst hC
  exact ⟨va_cnB n hts (se_gi hc) rfl hrc hrs hl (t _ hi) hd hR, hy1, t _ hin⟩
end SEI

