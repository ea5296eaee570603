/-! written by program (wip/gen) -/
theorem q_code_X5_begin : (Jvm.Cond.code ({ cls := "StreamEnd", name := "begin", desc := "(IZ)V" } : Jvm.MethodName) prog_1_method_2_code (3 : Nat) (Option.none : Option Jvm.ClassFile.FieldType)) ∈ se_all := se_in 400 (by decide +kernel) (by decide +kernel)
theorem qXL_m7 : (Jvm.Cond.methodLink "StreamEndLaw" (7 : Nat) ({ cls := "StreamEnd", name := "begin", desc := "(IZ)V" } : Jvm.MethodName)) ∈ se_all := se_in 397 (by decide +kernel) (by decide +kernel)
theorem q_instanceMethod_X5_begin : (Jvm.Cond.instanceMethod ({ cls := "StreamEnd", name := "begin", desc := "(IZ)V" } : Jvm.MethodName)) ∈ se_all := se_in 398 (by decide +kernel) (by decide +kernel)
theorem q_sel_X5_begin : (Jvm.Cond.selects "StreamEnd" ({ cls := "StreamEnd", name := "begin", desc := "(IZ)V" } : Jvm.MethodName) ({ cls := "StreamEnd", name := "begin", desc := "(IZ)V" } : Jvm.MethodName)) ∈ se_all := se_in 399 (by decide +kernel) (by decide +kernel)
theorem qXL_c13 : (Jvm.Cond.classLink "StreamEndLaw" (13 : Nat) "java/lang/IllegalStateException") ∈ se_all := se_in 396 (by decide +kernel) (by decide +kernel)
theorem q_code_X5_write : (Jvm.Cond.code ({ cls := "StreamEnd", name := "write", desc := "(JI)I" } : Jvm.MethodName) prog_1_method_3_code (6 : Nat) (Option.some Jvm.ClassFile.FieldType.int)) ∈ se_all := se_in 511 (by decide +kernel) (by decide +kernel)
theorem qXL_m15 : (Jvm.Cond.methodLink "StreamEndLaw" (15 : Nat) ({ cls := "StreamEnd", name := "write", desc := "(JI)I" } : Jvm.MethodName)) ∈ se_all := se_in 508 (by decide +kernel) (by decide +kernel)
theorem q_instanceMethod_X5_write : (Jvm.Cond.instanceMethod ({ cls := "StreamEnd", name := "write", desc := "(JI)I" } : Jvm.MethodName)) ∈ se_all := se_in 509 (by decide +kernel) (by decide +kernel)
theorem q_sel_X5_write : (Jvm.Cond.selects "StreamEnd" ({ cls := "StreamEnd", name := "write", desc := "(JI)I" } : Jvm.MethodName) ({ cls := "StreamEnd", name := "write", desc := "(JI)I" } : Jvm.MethodName)) ∈ se_all := se_in 510 (by decide +kernel) (by decide +kernel)
theorem qXL_c19 : (Jvm.Cond.classLink "StreamEndLaw" (19 : Nat) "java/lang/IllegalArgumentException") ∈ se_all := se_in 507 (by decide +kernel) (by decide +kernel)
theorem q_code_X5_read : (Jvm.Cond.code ({ cls := "StreamEnd", name := "read", desc := "()I" } : Jvm.MethodName) prog_1_method_4_code (1 : Nat) (Option.some Jvm.ClassFile.FieldType.int)) ∈ se_all := se_in 562 (by decide +kernel) (by decide +kernel)
theorem qXL_m21 : (Jvm.Cond.methodLink "StreamEndLaw" (21 : Nat) ({ cls := "StreamEnd", name := "read", desc := "()I" } : Jvm.MethodName)) ∈ se_all := se_in 559 (by decide +kernel) (by decide +kernel)
theorem q_instanceMethod_X5_read : (Jvm.Cond.instanceMethod ({ cls := "StreamEnd", name := "read", desc := "()I" } : Jvm.MethodName)) ∈ se_all := se_in 560 (by decide +kernel) (by decide +kernel)
theorem q_sel_X5_read : (Jvm.Cond.selects "StreamEnd" ({ cls := "StreamEnd", name := "read", desc := "()I" } : Jvm.MethodName) ({ cls := "StreamEnd", name := "read", desc := "()I" } : Jvm.MethodName)) ∈ se_all := se_in 561 (by decide +kernel) (by decide +kernel)
theorem q_code_X5_close : (Jvm.Cond.code ({ cls := "StreamEnd", name := "close", desc := "()V" } : Jvm.MethodName) prog_1_method_5_code (1 : Nat) (Option.none : Option Jvm.ClassFile.FieldType)) ∈ se_all := se_in 582 (by decide +kernel) (by decide +kernel)
theorem qXL_m25 : (Jvm.Cond.methodLink "StreamEndLaw" (25 : Nat) ({ cls := "StreamEnd", name := "close", desc := "()V" } : Jvm.MethodName)) ∈ se_all := se_in 579 (by decide +kernel) (by decide +kernel)
theorem q_instanceMethod_X5_close : (Jvm.Cond.instanceMethod ({ cls := "StreamEnd", name := "close", desc := "()V" } : Jvm.MethodName)) ∈ se_all := se_in 580 (by decide +kernel) (by decide +kernel)
theorem q_sel_X5_close : (Jvm.Cond.selects "StreamEnd" ({ cls := "StreamEnd", name := "close", desc := "()V" } : Jvm.MethodName) ({ cls := "StreamEnd", name := "close", desc := "()V" } : Jvm.MethodName)) ∈ se_all := se_in 581 (by decide +kernel) (by decide +kernel)
theorem q_code_X5_abort : (Jvm.Cond.code ({ cls := "StreamEnd", name := "abort", desc := "()V" } : Jvm.MethodName) prog_1_method_6_code (1 : Nat) (Option.none : Option Jvm.ClassFile.FieldType)) ∈ se_all := se_in 599 (by decide +kernel) (by decide +kernel)
theorem qXL_m28 : (Jvm.Cond.methodLink "StreamEndLaw" (28 : Nat) ({ cls := "StreamEnd", name := "abort", desc := "()V" } : Jvm.MethodName)) ∈ se_all := se_in 596 (by decide +kernel) (by decide +kernel)
theorem q_instanceMethod_X5_abort : (Jvm.Cond.instanceMethod ({ cls := "StreamEnd", name := "abort", desc := "()V" } : Jvm.MethodName)) ∈ se_all := se_in 597 (by decide +kernel) (by decide +kernel)
theorem q_sel_X5_abort : (Jvm.Cond.selects "StreamEnd" ({ cls := "StreamEnd", name := "abort", desc := "()V" } : Jvm.MethodName) ({ cls := "StreamEnd", name := "abort", desc := "()V" } : Jvm.MethodName)) ∈ se_all := se_in 598 (by decide +kernel) (by decide +kernel)
theorem q_code_X5_run : (Jvm.Cond.code ({ cls := "StreamEnd", name := "run", desc := "(I)I" } : Jvm.MethodName) prog_1_method_7_code (4 : Nat) (Option.some Jvm.ClassFile.FieldType.int)) ∈ se_all := se_in 611 (by decide +kernel) (by decide +kernel)
theorem qXL_m31 : (Jvm.Cond.methodLink "StreamEndLaw" (31 : Nat) ({ cls := "StreamEnd", name := "run", desc := "(I)I" } : Jvm.MethodName)) ∈ se_all := se_in 608 (by decide +kernel) (by decide +kernel)
theorem q_instanceMethod_X5_run : (Jvm.Cond.instanceMethod ({ cls := "StreamEnd", name := "run", desc := "(I)I" } : Jvm.MethodName)) ∈ se_all := se_in 609 (by decide +kernel) (by decide +kernel)
theorem q_sel_X5_run : (Jvm.Cond.selects "StreamEnd" ({ cls := "StreamEnd", name := "run", desc := "(I)I" } : Jvm.MethodName) ({ cls := "StreamEnd", name := "run", desc := "(I)I" } : Jvm.MethodName)) ∈ se_all := se_in 610 (by decide +kernel) (by decide +kernel)
theorem q_code_X5_segment : (Jvm.Cond.code ({ cls := "StreamEnd", name := "segment", desc := "(I)I" } : Jvm.MethodName) prog_1_method_9_code (2 : Nat) (Option.some Jvm.ClassFile.FieldType.int)) ∈ se_all := se_in 639 (by decide +kernel) (by decide +kernel)
theorem qXL_m35 : (Jvm.Cond.methodLink "StreamEndLaw" (35 : Nat) ({ cls := "StreamEnd", name := "segment", desc := "(I)I" } : Jvm.MethodName)) ∈ se_all := se_in 636 (by decide +kernel) (by decide +kernel)
theorem q_instanceMethod_X5_segment : (Jvm.Cond.instanceMethod ({ cls := "StreamEnd", name := "segment", desc := "(I)I" } : Jvm.MethodName)) ∈ se_all := se_in 637 (by decide +kernel) (by decide +kernel)
theorem q_sel_X5_segment : (Jvm.Cond.selects "StreamEnd" ({ cls := "StreamEnd", name := "segment", desc := "(I)I" } : Jvm.MethodName) ({ cls := "StreamEnd", name := "segment", desc := "(I)I" } : Jvm.MethodName)) ∈ se_all := se_in 638 (by decide +kernel) (by decide +kernel)
theorem q_code_X5_byteAt : (Jvm.Cond.code ({ cls := "StreamEnd", name := "byteAt", desc := "(I)I" } : Jvm.MethodName) prog_1_method_10_code (2 : Nat) (Option.some Jvm.ClassFile.FieldType.int)) ∈ se_all := se_in 649 (by decide +kernel) (by decide +kernel)
theorem qXL_m38 : (Jvm.Cond.methodLink "StreamEndLaw" (38 : Nat) ({ cls := "StreamEnd", name := "byteAt", desc := "(I)I" } : Jvm.MethodName)) ∈ se_all := se_in 646 (by decide +kernel) (by decide +kernel)
theorem q_instanceMethod_X5_byteAt : (Jvm.Cond.instanceMethod ({ cls := "StreamEnd", name := "byteAt", desc := "(I)I" } : Jvm.MethodName)) ∈ se_all := se_in 647 (by decide +kernel) (by decide +kernel)
theorem q_sel_X5_byteAt : (Jvm.Cond.selects "StreamEnd" ({ cls := "StreamEnd", name := "byteAt", desc := "(I)I" } : Jvm.MethodName) ({ cls := "StreamEnd", name := "byteAt", desc := "(I)I" } : Jvm.MethodName)) ∈ se_all := se_in 648 (by decide +kernel) (by decide +kernel)
theorem qXL_c41 : (Jvm.Cond.classLink "StreamEndLaw" (41 : Nat) "java/lang/IndexOutOfBoundsException") ∈ se_all := se_in 645 (by decide +kernel) (by decide +kernel)
theorem q_code_X5_feed : (Jvm.Cond.code ({ cls := "StreamEnd", name := "feed", desc := "(JI)I" } : Jvm.MethodName) prog_1_method_11_code (5 : Nat) (Option.some Jvm.ClassFile.FieldType.int)) ∈ se_all := se_in 672 (by decide +kernel) (by decide +kernel)
theorem qXL_m43 : (Jvm.Cond.methodLink "StreamEndLaw" (43 : Nat) ({ cls := "StreamEnd", name := "feed", desc := "(JI)I" } : Jvm.MethodName)) ∈ se_all := se_in 669 (by decide +kernel) (by decide +kernel)
theorem q_instanceMethod_X5_feed : (Jvm.Cond.instanceMethod ({ cls := "StreamEnd", name := "feed", desc := "(JI)I" } : Jvm.MethodName)) ∈ se_all := se_in 670 (by decide +kernel) (by decide +kernel)
theorem q_sel_X5_feed : (Jvm.Cond.selects "StreamEnd" ({ cls := "StreamEnd", name := "feed", desc := "(JI)I" } : Jvm.MethodName) ({ cls := "StreamEnd", name := "feed", desc := "(JI)I" } : Jvm.MethodName)) ∈ se_all := se_in 671 (by decide +kernel) (by decide +kernel)
theorem q_code_X5_arrive : (Jvm.Cond.code ({ cls := "StreamEnd", name := "arrive", desc := "(IIIII)I" } : Jvm.MethodName) prog_1_method_12_code (6 : Nat) (Option.some Jvm.ClassFile.FieldType.int)) ∈ se_all := se_in 682 (by decide +kernel) (by decide +kernel)
theorem qXL_m46 : (Jvm.Cond.methodLink "StreamEndLaw" (46 : Nat) ({ cls := "StreamEnd", name := "arrive", desc := "(IIIII)I" } : Jvm.MethodName)) ∈ se_all := se_in 679 (by decide +kernel) (by decide +kernel)
theorem q_instanceMethod_X5_arrive : (Jvm.Cond.instanceMethod ({ cls := "StreamEnd", name := "arrive", desc := "(IIIII)I" } : Jvm.MethodName)) ∈ se_all := se_in 680 (by decide +kernel) (by decide +kernel)
theorem q_sel_X5_arrive : (Jvm.Cond.selects "StreamEnd" ({ cls := "StreamEnd", name := "arrive", desc := "(IIIII)I" } : Jvm.MethodName) ({ cls := "StreamEnd", name := "arrive", desc := "(IIIII)I" } : Jvm.MethodName)) ∈ se_all := se_in 681 (by decide +kernel) (by decide +kernel)
theorem q_code_X5_figure : (Jvm.Cond.code ({ cls := "StreamEnd", name := "figure", desc := "(I)I" } : Jvm.MethodName) prog_1_method_14_code (2 : Nat) (Option.some Jvm.ClassFile.FieldType.int)) ∈ se_all := se_in 812 (by decide +kernel) (by decide +kernel)
theorem qXL_m50 : (Jvm.Cond.methodLink "StreamEndLaw" (50 : Nat) ({ cls := "StreamEnd", name := "figure", desc := "(I)I" } : Jvm.MethodName)) ∈ se_all := se_in 809 (by decide +kernel) (by decide +kernel)
theorem q_instanceMethod_X5_figure : (Jvm.Cond.instanceMethod ({ cls := "StreamEnd", name := "figure", desc := "(I)I" } : Jvm.MethodName)) ∈ se_all := se_in 810 (by decide +kernel) (by decide +kernel)
theorem q_sel_X5_figure : (Jvm.Cond.selects "StreamEnd" ({ cls := "StreamEnd", name := "figure", desc := "(I)I" } : Jvm.MethodName) ({ cls := "StreamEnd", name := "figure", desc := "(I)I" } : Jvm.MethodName)) ∈ se_all := se_in 811 (by decide +kernel) (by decide +kernel)
def xe_Wo (ko : ClassId) (ho : Nat) (k : Nat → ClassId) (h : Nat → Nat) (f : Nat → Int64) (g : se_G) : va_W := (ho, .inl (ko, 1, .inr (.inl f))) :: se_WS k h g
def xe_ZH (sa : Nat → Nat) (A : Nat → Prop) (s : State) : Prop := se_ZN s ∧ (∀ q ∈ xe_strs, vk_R RX5 q.1 q.2 (sa q.1) s) ∧ xe_St "UNASSIGNED_STACK" Bundle.steD A s s.heap ∧ xe_St "SUPPRESSED_SENTINEL" Bundle.listD A s s.heap ∧ va_Nc "java/lang/IllegalStateException" "java/lang/IllegalArgumentException" s ∧ va_Nc "java/lang/IndexOutOfBoundsException" "java/lang/IllegalStateException" s
theorem xe_ZH_call {sa : Nat → Nat} {A : Nat → Prop} {s : State} {H : Heap} {locs : List Loc} (h : xe_ZH sa A s) (hS : va_S A s.heap H locs) : ∀ U : State, U.heap = H → s.WarmedH U.vm → se_ZNX sa U := by
  intro U hU hW
  have s1 : xe_St "UNASSIGNED_STACK" Bundle.steD A U U.heap := by rw [hU]; exact h.2.2.1.go hW.alike hS.2.1 (fun _ _ z => z)
  have s2 : xe_St "SUPPRESSED_SENTINEL" Bundle.listD A U U.heap := by rw [hU]; exact h.2.2.2.1.go hW.alike hS.2.1 (fun _ _ z => z)
  refine ⟨se_ZN_ok.2 s U hW h.1, fun q hq => vk_R.warm hW (h.2.1 q hq), fun w hw => ?_⟩
  simp only [xe_heapw, List.mem_cons, List.not_mem_nil, or_false] at hw
  rcases hw with rfl | rfl | rfl | rfl
  · exact s1.ref
  · exact s2.ref
  · exact s1.lays
  · exact s2.lays
theorem xe_ZNX_c {sa : Nat → Nat} : ∀ (U : State) (g : JFrame) (mk : MethodId) (a : Array Value), se_ZNX sa U → se_ZNX sa (U.calling g mk a) := by
  intro U g mk a h
  refine ⟨se_ZN_ok.1 U g mk a h.1, fun q hq => vk_R.same rfl (h.2.1 q hq), fun w hw => ?_⟩
  have h9 := h.2.2 w hw
  simp only [xe_heapw, List.mem_cons, List.not_mem_nil, or_false] at hw
  rcases hw with rfl | rfl | rfl | rfl <;> exact h9
theorem se_x0ne {E : String} : ¬ se_x E = 0 := by
  unfold se_x
  repeat' split
  all_goals decide

theorem dXL_begin_0 : decode cXL_begin 0 = .ok (.aload_n 0, 1) := by decide +kernel
theorem dXL_begin_1 : decode cXL_begin 1 = .ok (.iload_n 1, 1) := by decide +kernel
theorem dXL_begin_2 : decode cXL_begin 2 = .ok (.iload_n 2, 1) := by decide +kernel
theorem dXL_begin_3 : decode cXL_begin 3 = .ok (.invokevirtual 7, 3) := by decide +kernel
theorem dXL_begin_6 : decode cXL_begin 6 = .ok (.goto 6, 3) := by decide +kernel
theorem dXL_begin_9 : decode cXL_begin 9 = .ok (.astore_n 3, 1) := by decide +kernel
theorem dXL_begin_10 : decode cXL_begin 10 = .ok (.iconst 1, 1) := by decide +kernel
theorem dXL_begin_11 : decode cXL_begin 11 = .ok (.ireturn, 1) := by decide +kernel
theorem dXL_begin_12 : decode cXL_begin 12 = .ok (.iconst 0, 1) := by decide +kernel
theorem dXL_begin_13 : decode cXL_begin 13 = .ok (.ireturn, 1) := by decide +kernel
theorem dXL_write_0 : decode cXL_write 0 = .ok (.aload 4, 2) := by decide +kernel
theorem dXL_write_2 : decode cXL_write 2 = .ok (.iconst 0, 1) := by decide +kernel
theorem dXL_write_3 : decode cXL_write 3 = .ok (.aload_n 0, 1) := by decide +kernel
theorem dXL_write_4 : decode cXL_write 4 = .ok (.lload_n 1, 1) := by decide +kernel
theorem dXL_write_5 : decode cXL_write 5 = .ok (.iload_n 3, 1) := by decide +kernel
theorem dXL_write_6 : decode cXL_write 6 = .ok (.invokevirtual 15, 3) := by decide +kernel
theorem dXL_write_9 : decode cXL_write 9 = .ok (.i2l, 1) := by decide +kernel
theorem dXL_write_10 : decode cXL_write 10 = .ok (.lastore, 1) := by decide +kernel
theorem dXL_write_11 : decode cXL_write 11 = .ok (.goto 11, 3) := by decide +kernel
theorem dXL_write_14 : decode cXL_write 14 = .ok (.astore 5, 2) := by decide +kernel
theorem dXL_write_16 : decode cXL_write 16 = .ok (.iconst 1, 1) := by decide +kernel
theorem dXL_write_17 : decode cXL_write 17 = .ok (.ireturn, 1) := by decide +kernel
theorem dXL_write_18 : decode cXL_write 18 = .ok (.astore 5, 2) := by decide +kernel
theorem dXL_write_20 : decode cXL_write 20 = .ok (.iconst 2, 1) := by decide +kernel
theorem dXL_write_21 : decode cXL_write 21 = .ok (.ireturn, 1) := by decide +kernel
theorem dXL_write_22 : decode cXL_write 22 = .ok (.iconst 0, 1) := by decide +kernel
theorem dXL_write_23 : decode cXL_write 23 = .ok (.ireturn, 1) := by decide +kernel
theorem dXL_read_0 : decode cXL_read 0 = .ok (.aload_n 1, 1) := by decide +kernel
theorem dXL_read_1 : decode cXL_read 1 = .ok (.iconst 0, 1) := by decide +kernel
theorem dXL_read_2 : decode cXL_read 2 = .ok (.aload_n 0, 1) := by decide +kernel
theorem dXL_read_3 : decode cXL_read 3 = .ok (.invokevirtual 21, 3) := by decide +kernel
theorem dXL_read_6 : decode cXL_read 6 = .ok (.i2l, 1) := by decide +kernel
theorem dXL_read_7 : decode cXL_read 7 = .ok (.lastore, 1) := by decide +kernel
theorem dXL_read_8 : decode cXL_read 8 = .ok (.goto 6, 3) := by decide +kernel
theorem dXL_read_11 : decode cXL_read 11 = .ok (.astore_n 2, 1) := by decide +kernel
theorem dXL_read_12 : decode cXL_read 12 = .ok (.iconst 1, 1) := by decide +kernel
theorem dXL_read_13 : decode cXL_read 13 = .ok (.ireturn, 1) := by decide +kernel
theorem dXL_read_14 : decode cXL_read 14 = .ok (.iconst 0, 1) := by decide +kernel
theorem dXL_read_15 : decode cXL_read 15 = .ok (.ireturn, 1) := by decide +kernel
theorem dXL_close_0 : decode cXL_close 0 = .ok (.aload_n 0, 1) := by decide +kernel
theorem dXL_close_1 : decode cXL_close 1 = .ok (.invokevirtual 25, 3) := by decide +kernel
theorem dXL_close_4 : decode cXL_close 4 = .ok (.goto 6, 3) := by decide +kernel
theorem dXL_close_7 : decode cXL_close 7 = .ok (.astore_n 1, 1) := by decide +kernel
theorem dXL_close_8 : decode cXL_close 8 = .ok (.iconst 1, 1) := by decide +kernel
theorem dXL_close_9 : decode cXL_close 9 = .ok (.ireturn, 1) := by decide +kernel
theorem dXL_close_10 : decode cXL_close 10 = .ok (.iconst 0, 1) := by decide +kernel
theorem dXL_close_11 : decode cXL_close 11 = .ok (.ireturn, 1) := by decide +kernel
theorem dXL_abort_0 : decode cXL_abort 0 = .ok (.aload_n 0, 1) := by decide +kernel
theorem dXL_abort_1 : decode cXL_abort 1 = .ok (.invokevirtual 28, 3) := by decide +kernel
theorem dXL_abort_4 : decode cXL_abort 4 = .ok (.goto 6, 3) := by decide +kernel
theorem dXL_abort_7 : decode cXL_abort 7 = .ok (.astore_n 1, 1) := by decide +kernel
theorem dXL_abort_8 : decode cXL_abort 8 = .ok (.iconst 1, 1) := by decide +kernel
theorem dXL_abort_9 : decode cXL_abort 9 = .ok (.ireturn, 1) := by decide +kernel
theorem dXL_abort_10 : decode cXL_abort 10 = .ok (.iconst 0, 1) := by decide +kernel
theorem dXL_abort_11 : decode cXL_abort 11 = .ok (.ireturn, 1) := by decide +kernel
theorem dXL_run_0 : decode cXL_run 0 = .ok (.aload_n 2, 1) := by decide +kernel
theorem dXL_run_1 : decode cXL_run 1 = .ok (.iconst 0, 1) := by decide +kernel
theorem dXL_run_2 : decode cXL_run 2 = .ok (.aload_n 0, 1) := by decide +kernel
theorem dXL_run_3 : decode cXL_run 3 = .ok (.iload_n 1, 1) := by decide +kernel
theorem dXL_run_4 : decode cXL_run 4 = .ok (.invokevirtual 31, 3) := by decide +kernel
theorem dXL_run_7 : decode cXL_run 7 = .ok (.i2l, 1) := by decide +kernel
theorem dXL_run_8 : decode cXL_run 8 = .ok (.lastore, 1) := by decide +kernel
theorem dXL_run_9 : decode cXL_run 9 = .ok (.goto 9, 3) := by decide +kernel
theorem dXL_run_12 : decode cXL_run 12 = .ok (.astore_n 3, 1) := by decide +kernel
theorem dXL_run_13 : decode cXL_run 13 = .ok (.iconst 1, 1) := by decide +kernel
theorem dXL_run_14 : decode cXL_run 14 = .ok (.ireturn, 1) := by decide +kernel
theorem dXL_run_15 : decode cXL_run 15 = .ok (.astore_n 3, 1) := by decide +kernel
theorem dXL_run_16 : decode cXL_run 16 = .ok (.iconst 2, 1) := by decide +kernel
theorem dXL_run_17 : decode cXL_run 17 = .ok (.ireturn, 1) := by decide +kernel
theorem dXL_run_18 : decode cXL_run 18 = .ok (.iconst 0, 1) := by decide +kernel
theorem dXL_run_19 : decode cXL_run 19 = .ok (.ireturn, 1) := by decide +kernel
theorem dXL_segment_0 : decode cXL_segment 0 = .ok (.aload_n 2, 1) := by decide +kernel
theorem dXL_segment_1 : decode cXL_segment 1 = .ok (.iconst 0, 1) := by decide +kernel
theorem dXL_segment_2 : decode cXL_segment 2 = .ok (.aload_n 0, 1) := by decide +kernel
theorem dXL_segment_3 : decode cXL_segment 3 = .ok (.iload_n 1, 1) := by decide +kernel
theorem dXL_segment_4 : decode cXL_segment 4 = .ok (.invokevirtual 35, 3) := by decide +kernel
theorem dXL_segment_7 : decode cXL_segment 7 = .ok (.i2l, 1) := by decide +kernel
theorem dXL_segment_8 : decode cXL_segment 8 = .ok (.lastore, 1) := by decide +kernel
theorem dXL_segment_9 : decode cXL_segment 9 = .ok (.goto 9, 3) := by decide +kernel
theorem dXL_segment_12 : decode cXL_segment 12 = .ok (.astore_n 3, 1) := by decide +kernel
theorem dXL_segment_13 : decode cXL_segment 13 = .ok (.iconst 1, 1) := by decide +kernel
theorem dXL_segment_14 : decode cXL_segment 14 = .ok (.ireturn, 1) := by decide +kernel
theorem dXL_segment_15 : decode cXL_segment 15 = .ok (.astore_n 3, 1) := by decide +kernel
theorem dXL_segment_16 : decode cXL_segment 16 = .ok (.iconst 2, 1) := by decide +kernel
theorem dXL_segment_17 : decode cXL_segment 17 = .ok (.ireturn, 1) := by decide +kernel
theorem dXL_segment_18 : decode cXL_segment 18 = .ok (.iconst 0, 1) := by decide +kernel
theorem dXL_segment_19 : decode cXL_segment 19 = .ok (.ireturn, 1) := by decide +kernel
theorem dXL_byteAt_0 : decode cXL_byteAt 0 = .ok (.aload_n 2, 1) := by decide +kernel
theorem dXL_byteAt_1 : decode cXL_byteAt 1 = .ok (.iconst 0, 1) := by decide +kernel
theorem dXL_byteAt_2 : decode cXL_byteAt 2 = .ok (.aload_n 0, 1) := by decide +kernel
theorem dXL_byteAt_3 : decode cXL_byteAt 3 = .ok (.iload_n 1, 1) := by decide +kernel
theorem dXL_byteAt_4 : decode cXL_byteAt 4 = .ok (.invokevirtual 38, 3) := by decide +kernel
theorem dXL_byteAt_7 : decode cXL_byteAt 7 = .ok (.i2l, 1) := by decide +kernel
theorem dXL_byteAt_8 : decode cXL_byteAt 8 = .ok (.lastore, 1) := by decide +kernel
theorem dXL_byteAt_9 : decode cXL_byteAt 9 = .ok (.goto 9, 3) := by decide +kernel
theorem dXL_byteAt_12 : decode cXL_byteAt 12 = .ok (.astore_n 3, 1) := by decide +kernel
theorem dXL_byteAt_13 : decode cXL_byteAt 13 = .ok (.iconst 1, 1) := by decide +kernel
theorem dXL_byteAt_14 : decode cXL_byteAt 14 = .ok (.ireturn, 1) := by decide +kernel
theorem dXL_byteAt_15 : decode cXL_byteAt 15 = .ok (.astore_n 3, 1) := by decide +kernel
theorem dXL_byteAt_16 : decode cXL_byteAt 16 = .ok (.iconst 2, 1) := by decide +kernel
theorem dXL_byteAt_17 : decode cXL_byteAt 17 = .ok (.ireturn, 1) := by decide +kernel
theorem dXL_byteAt_18 : decode cXL_byteAt 18 = .ok (.iconst 0, 1) := by decide +kernel
theorem dXL_byteAt_19 : decode cXL_byteAt 19 = .ok (.ireturn, 1) := by decide +kernel
theorem dXL_feed_0 : decode cXL_feed 0 = .ok (.aload 4, 2) := by decide +kernel
theorem dXL_feed_2 : decode cXL_feed 2 = .ok (.iconst 0, 1) := by decide +kernel
theorem dXL_feed_3 : decode cXL_feed 3 = .ok (.aload_n 0, 1) := by decide +kernel
theorem dXL_feed_4 : decode cXL_feed 4 = .ok (.lload_n 1, 1) := by decide +kernel
theorem dXL_feed_5 : decode cXL_feed 5 = .ok (.iload_n 3, 1) := by decide +kernel
theorem dXL_feed_6 : decode cXL_feed 6 = .ok (.invokevirtual 43, 3) := by decide +kernel
theorem dXL_feed_9 : decode cXL_feed 9 = .ok (.i2l, 1) := by decide +kernel
theorem dXL_feed_10 : decode cXL_feed 10 = .ok (.lastore, 1) := by decide +kernel
theorem dXL_feed_11 : decode cXL_feed 11 = .ok (.goto 11, 3) := by decide +kernel
theorem dXL_feed_14 : decode cXL_feed 14 = .ok (.astore 5, 2) := by decide +kernel
theorem dXL_feed_16 : decode cXL_feed 16 = .ok (.iconst 1, 1) := by decide +kernel
theorem dXL_feed_17 : decode cXL_feed 17 = .ok (.ireturn, 1) := by decide +kernel
theorem dXL_feed_18 : decode cXL_feed 18 = .ok (.astore 5, 2) := by decide +kernel
theorem dXL_feed_20 : decode cXL_feed 20 = .ok (.iconst 2, 1) := by decide +kernel
theorem dXL_feed_21 : decode cXL_feed 21 = .ok (.ireturn, 1) := by decide +kernel
theorem dXL_feed_22 : decode cXL_feed 22 = .ok (.iconst 0, 1) := by decide +kernel
theorem dXL_feed_23 : decode cXL_feed 23 = .ok (.ireturn, 1) := by decide +kernel
theorem dXL_arrive_0 : decode cXL_arrive 0 = .ok (.aload 6, 2) := by decide +kernel
theorem dXL_arrive_2 : decode cXL_arrive 2 = .ok (.iconst 0, 1) := by decide +kernel
theorem dXL_arrive_3 : decode cXL_arrive 3 = .ok (.aload_n 0, 1) := by decide +kernel
theorem dXL_arrive_4 : decode cXL_arrive 4 = .ok (.iload_n 1, 1) := by decide +kernel
theorem dXL_arrive_5 : decode cXL_arrive 5 = .ok (.iload_n 2, 1) := by decide +kernel
theorem dXL_arrive_6 : decode cXL_arrive 6 = .ok (.iload_n 3, 1) := by decide +kernel
theorem dXL_arrive_7 : decode cXL_arrive 7 = .ok (.iload 4, 2) := by decide +kernel
theorem dXL_arrive_9 : decode cXL_arrive 9 = .ok (.iload 5, 2) := by decide +kernel
theorem dXL_arrive_11 : decode cXL_arrive 11 = .ok (.invokevirtual 46, 3) := by decide +kernel
theorem dXL_arrive_14 : decode cXL_arrive 14 = .ok (.i2l, 1) := by decide +kernel
theorem dXL_arrive_15 : decode cXL_arrive 15 = .ok (.lastore, 1) := by decide +kernel
theorem dXL_arrive_16 : decode cXL_arrive 16 = .ok (.goto 7, 3) := by decide +kernel
theorem dXL_arrive_19 : decode cXL_arrive 19 = .ok (.astore 7, 2) := by decide +kernel
theorem dXL_arrive_21 : decode cXL_arrive 21 = .ok (.iconst 1, 1) := by decide +kernel
theorem dXL_arrive_22 : decode cXL_arrive 22 = .ok (.ireturn, 1) := by decide +kernel
theorem dXL_arrive_23 : decode cXL_arrive 23 = .ok (.iconst 0, 1) := by decide +kernel
theorem dXL_arrive_24 : decode cXL_arrive 24 = .ok (.ireturn, 1) := by decide +kernel
theorem dXL_figure_0 : decode cXL_figure 0 = .ok (.aload_n 2, 1) := by decide +kernel
theorem dXL_figure_1 : decode cXL_figure 1 = .ok (.iconst 0, 1) := by decide +kernel
theorem dXL_figure_2 : decode cXL_figure 2 = .ok (.aload_n 0, 1) := by decide +kernel
theorem dXL_figure_3 : decode cXL_figure 3 = .ok (.iload_n 1, 1) := by decide +kernel
theorem dXL_figure_4 : decode cXL_figure 4 = .ok (.invokevirtual 50, 3) := by decide +kernel
theorem dXL_figure_7 : decode cXL_figure 7 = .ok (.i2l, 1) := by decide +kernel
theorem dXL_figure_8 : decode cXL_figure 8 = .ok (.lastore, 1) := by decide +kernel
theorem dXL_figure_9 : decode cXL_figure 9 = .ok (.goto 6, 3) := by decide +kernel
theorem dXL_figure_12 : decode cXL_figure 12 = .ok (.astore_n 3, 1) := by decide +kernel
theorem dXL_figure_13 : decode cXL_figure 13 = .ok (.iconst 1, 1) := by decide +kernel
theorem dXL_figure_14 : decode cXL_figure 14 = .ok (.ireturn, 1) := by decide +kernel
theorem dXL_figure_15 : decode cXL_figure 15 = .ok (.iconst 0, 1) := by decide +kernel
theorem dXL_figure_16 : decode cXL_figure 16 = .ok (.ireturn, 1) := by decide +kernel
