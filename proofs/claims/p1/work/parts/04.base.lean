-- MY OWN LAYER over the kit's worlds: one shape for every contract of this claim
abbrev tw_T : Type := List (ClassId × FieldType)
abbrev tw_U : Type := va_W × tw_T
/-- what stands behind a method: its cells, and the classes of its new arrays -/
def tw_B (D : va_G) (A : Nat → Prop) (u : tw_U) (t : State) : Prop := va_P D vwCl u.1 t.heap ∧ va_K D vwCl u.2 t ∧ va_D A u.1
def tw_BX (D : va_G) (A : Nat → Prop) (E : String) (u : String × tw_U) (t : State) : Prop := E = u.1 ∧ tw_B D A u.2 t
theorem tw_probe1 : (vx_atS RX3 41 "java/lang/IllegalArgumentException" ["java/lang/RuntimeException", "java/lang/Exception"]).filter (fun w => !goodWord w) = [] := by decide +kernel
theorem tw_probe2 : (vx_atS RX3 41 "java/lang/IllegalArgumentException" ["java/lang/RuntimeException", "java/lang/Exception"]).filter (fun w => !goodWord w) = [] := by
  simp [vx_atS, Bundle.ownAtoms]
  trace_state
  rfl
