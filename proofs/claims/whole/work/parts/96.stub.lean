/-! pairs that are still to be shown -/
section STUB
variable {c d n p : Nat} {m : gd_M} {s : gd_C}
theorem P_code (R : gRel c d n p m s) : gPr 61 82 [] m := sorry
theorem P_post (R : gRel c d n p m s) (x0 x1 x2 : Int32) : gPr 137 145 [.int x0, .int x1, .int x2] m := sorry
theorem P_routine (R : gRel c d n p m s) (x0 x1 x2 : Int32) : gPr 148 150 [.int x0, .int x1, .int x2] m := sorry
theorem P_inquire (R : gRel c d n p m s) (x0 x1 x2 : Int32) : gPr 152 153 [.int x0, .int x1, .int x2] m := sorry
theorem P_answer (R : gRel c d n p m s) (x0 x1 x2 x3 : Int32) : gPr 154 155 [.int x0, .int x1, .int x2, .int x3] m := sorry
theorem P_list (R : gRel c d n p m s) (x0 : Int32) : gPr 165 168 [.int x0] m := sorry
theorem P_place (R : gRel c d n p m s) (x0 x1 x2 : Int32) : gPr 173 175 [.int x0, .int x1, .int x2] m := sorry
theorem P_finalist (R : gRel c d n p m s) (x0 x1 : Int32) : gPr 176 177 [.int x0, .int x1] m := sorry
theorem P_land (R : gRel c d n p m s) (x0 x1 : Int32) : gPr 181 183 [.int x0, .int x1] m := sorry
theorem P_standing (R : gRel c d n p m s) (x0 : Int32) : gPr 184 185 [.int x0] m := sorry
end STUB
