theorem CM_u0 : CM u0M := by
  unfold CM
  refine ⟨?_, ?_, ?_, ?_⟩ <;> decide
theorem pure_ops : ∃ RR : St → St → Prop, OPS RR ∧ RR (fun _ _ => 0) u0M := by
  refine ⟨RR, fun u v h => ⟨op_put h, op_text h, op_patch h, op_cut h, op_twice h, op_clear h, op_judge h, op_place h, op_shrink h, op_at h, op_read h, op_found h, op_count h⟩, fun _ => 0, 0, ⟨⟨by omega, fun i hi => by omega⟩, ⟨by omega, fun i hi => by omega⟩, CM_u0, rfl, rfl⟩, rfl, fun _ _ => rfl, fun _ _ => rfl, 0, by omega, rfl, rfl, fun z => absurd rfl z⟩
