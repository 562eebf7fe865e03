theorem z_weq {g : zGT} {M : zMD} {R : Room} {ce sl pc : Nat} {lv : List (Nat × Value)} {st : List Value} {w w' : zW} {Post : zP} (h : w = w') (k : zTr g M R ce sl pc lv st w' Post) : zTr g M R ce sl pc lv st w Post := by rw [h]; exact k
theorem z_i2c_n {g : zGT} {M : zMD} {R : Room} {ce sl pc : Nat} {lv : List (Nat × Value)} {rest : List Value} {w : zW} {Post : zP} {a : Nat} (d : decode M.2.1 pc = .ok (.i2c, 1)) (h : a < 65536) (k : zTr g M R ce sl (pc + 1) lv (.int (nI a) :: rest) w Post) : zTr g M R ce sl pc lv (.int (nI a) :: rest) w Post :=
  z_i2c d (by rw [pk_char, pk_tn (by omega), Nat.mod_eq_of_lt h]; exact k)
theorem nar_char {a : Nat} (h : a < 65536) : vp_nar .char (nI a) = nI a := by
  have := (pk_charN h).1
  simp only [vp_nar, this]
