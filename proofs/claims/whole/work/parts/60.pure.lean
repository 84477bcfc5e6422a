theorem pure_ops : ∃ RR : St → St → Prop, OPS RR ∧ RR (fun _ _ => 0) u0M := sorry
