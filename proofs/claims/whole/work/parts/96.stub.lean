/-! pairs that are still to be shown -/
section STUB
variable {c d n p : Nat} {m : gd_M} {s : gd_C}
theorem P_code (R : gRel c d n p m s) : gPr 61 82 [] m := sorry
theorem P_list (R : gRel c d n p m s) (x0 : Int32) : gPr 165 168 [.int x0] m := sorry
theorem P_place (R : gRel c d n p m s) (x0 x1 x2 : Int32) : gPr 173 175 [.int x0, .int x1, .int x2] m := sorry
theorem P_finalist (R : gRel c d n p m s) (x0 x1 : Int32) : gPr 176 177 [.int x0, .int x1] m := sorry
theorem P_land (R : gRel c d n p m s) (x0 x1 : Int32) : gPr 181 183 [.int x0, .int x1] m := sorry
theorem P_standing (R : gRel c d n p m s) (x0 : Int32) : gPr 184 185 [.int x0] m := sorry
end STUB
