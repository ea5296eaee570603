/-! written by program (wip/gen) -/
def lw_W (ko : ClassId) (ho : Nat) (k : Nat → ClassId) (h : Nat → Nat) (kM : Nat → ClassId) (hM : Nat → Nat) (f : Nat → Int64) (g gm : se_G) : va_W := xe_Wo ko ho k h f g ++ se_WM kM hM gm
theorem lb_preX {s : State} {A : Nat → Prop} {H : Heap} {locs : List Loc} {b L : Nat} {xs : Nat → Int32} {k : Int32} (hX : va_X b L xs s s.heap) (hbl : b < s.heap.size) (hbA : ¬ A b) (hS : va_S A s.heap H locs) : ∀ U : State, U.heap = H → s.WarmedH U.vm → va_Pc [.ref b, .int k] (fun U => va_X b L xs U U.heap) ([.ref b, .int k] : List Value).toArray U :=
  fun U hU hW => ⟨rfl, by show va_X b L xs U U.heap; rw [hU]; exact (hX.kept (hS.2.1 b hbl hbA)).moved hW.alike⟩
