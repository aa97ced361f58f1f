/-! pairs that are still to be shown -/
section STUB
variable {c d n p : Nat} {m : gd_M} {s : gd_C}
theorem P_code (R : gRel c d n p m s) : gPr 61 82 [] m := sorry
end STUB
