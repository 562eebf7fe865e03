/-! module State -/
def Sy (g : zGT) (w : zW) (b : Nat) (F : Nat → Nat) (n : Nat) (L : List Nat) (G : Nat → Nat) (c tr : Nat) : Prop := b + 6 < zn g ∧ w b = zO 10 [.ref (za g (b + 1)), .ref (za g (b + 3)), .ref (za g (b + 5)), .int (nI tr)] ∧ LvT g w (b + 1) F n ∧ Mk g w (b + 3) L ∧ LvT g w (b + 5) G c
theorem Sy.fr {g : zGT} {w w1 : zW} {b lo hi n c tr : Nat} {F G : Nat → Nat} {L : List Nat} (h : Sy g w b F n L G c tr) (hf : zFr w w1 lo hi) (hd : b + 6 < lo ∨ hi ≤ b) : Sy g w1 b F n L G c tr := ⟨h.1, (hf b (by omega)).trans h.2.1, h.2.2.1.fr hf (by omega), h.2.2.2.1.fr hf (by omega), h.2.2.2.2.fr hf (by omega)⟩
theorem Sy.cell {g : zGT} {w : zW} {b n c tr : Nat} {F G : Nat → Nat} {L : List Nat} (h : Sy g w b F n L G c tr) : w b = zO 10 [.ref (za g (b + 1)), .ref (za g (b + 3)), .ref (za g (b + 5)), .int (nI tr)] := h.2.1
/-- why a call is refused: 0 not at all, 1 index, 2 argument, 3 state, 4 missing -/
def fPass (t l v : Int) : Nat := if (0 ≤ t ∧ t < 200) ∧ (1 ≤ l ∧ l ≤ 50) ∧ (1 ≤ v ∧ v ≤ 9) then (if 200 < t + l then 3 else 0) else 2
def fRest (n : Nat) (t k : Int) : Nat := if 0 ≤ t ∧ t ≤ n then (if 1 ≤ k ∧ k ≤ 50 then (if 200 < (n : Int) + k then 3 else 0) else 2) else 1
def fMod (n : Nat) (p q s : Int) : Nat := if 0 ≤ p ∧ p ≤ q ∧ q ≤ n then (if s ≠ 0 ∧ -8 ≤ s ∧ s ≤ 8 then 0 else 2) else 1
def fRep (n : Nat) (p q k : Int) : Nat := if 0 ≤ p ∧ p ≤ q ∧ q ≤ n then (if 1 ≤ k ∧ k ≤ 9 then (if 200 < (n : Int) + (q - p) * k then 3 else 0) else 2) else 1
def fPas (n c : Nat) (t : Int) : Nat := if 0 ≤ t ∧ t ≤ n then (if c = 0 then 4 else if 200 < n + c then 3 else 0) else 1
def fMark (n : Nat) (L : List Nat) (t : Int) : Nat := if 0 ≤ t ∧ t ≤ n then (if t.toNat ∉ L ∧ 6 ≤ L.length then 3 else 0) else 1
def fIv (n : Nat) (p q : Int) : Nat := if 0 ≤ p ∧ p ≤ q ∧ q ≤ n then 0 else 1
theorem lidx_mem2 {t : Int} {L : List Nat} (h : 0 ≤ t) : lidx (fun x => decide ((x : Int) = t)) L 0 = -1 ↔ t.toNat ∉ L := by
  have h2 := lidx_mem t.toNat L
  rw [show ((t.toNat : Nat) : Int) = t by omega] at h2
  rcases h2 with ⟨a, c⟩ | ⟨a, c⟩
  · exact ⟨fun _ => c, fun _ => a⟩
  · exact ⟨fun z => by omega, fun z => absurd c z⟩
set_option maxRecDepth 100000 in
set_option maxHeartbeats 4000000 in
theorem c_X10_passFault {g : zGT} {w : zW} {x y z : Int32} (h0 : zG0 g) (h1 : zST g) : zCt g mX10_passFault (zR 0 0) [.int (x), .int (y), .int (z)] w (fun o w' => o = .inl (some (.ref (ze g (fPass x.toInt y.toInt z.toInt)))) ∧ w' = w) := by
  refine zCt_of (by decide +kernel) h0 [(0, .int (x)), (1, .int (y)), (2, .int (z))] rfl (Nat.le_of_ble_eq_true rfl) ?_
  refine z_iload_n dX10_passFault_0 rfl ?_
  refine z_if_lt_z (tgt := 15) dX10_passFault_1 (by decide) (fun h_1_1 => ?_) (fun h_1_1 => ?_)
  · refine z_iconst (v := nI 0) dX10_passFault_15 rfl ?_
    refine z_istore_n (lv' := [(0, .int (x)), (1, .int (y)), (2, .int (z)), (3, .int (nI (0)))]) dX10_passFault_16 (by decide) rfl ?_
    refine z_iload_n dX10_passFault_17 rfl ?_
    refine z_iconst (v := nI 1) dX10_passFault_18 rfl ?_
    have hk3 := nI_toInt (n := 1) (by omega)
    refine z_icmp_lt_z (tgt := 32) dX10_passFault_19 (by decide) (fun h_19_2 => ?_) (fun h_19_2 => ?_)
    · refine z_iconst (v := nI 0) dX10_passFault_32 rfl ?_
      refine z_istore (lv' := [(0, .int (x)), (1, .int (y)), (2, .int (z)), (3, .int (nI (0))), (4, .int (nI (0)))]) dX10_passFault_33 (by decide) rfl ?_
      refine z_iload_n dX10_passFault_35 rfl ?_
      refine z_iconst (v := nI 1) dX10_passFault_36 rfl ?_
      have hk5 := nI_toInt (n := 1) (by omega)
      refine z_icmp_lt_z (tgt := 50) dX10_passFault_37 (by decide) (fun h_37_4 => ?_) (fun h_37_4 => ?_)
      · refine z_iconst (v := nI 0) dX10_passFault_50 rfl ?_
        refine z_istore (lv' := [(0, .int (x)), (1, .int (y)), (2, .int (z)), (3, .int (nI (0))), (4, .int (nI (0))), (5, .int (nI (0)))]) dX10_passFault_51 (by decide) rfl ?_
        refine z_iload_n dX10_passFault_53 rfl ?_
        refine z_if_eq_n (a := 0) (tgt := 67) dX10_passFault_54 (by decide) (by omega) (fun h_54_6 => ?_) (fun h_54_6 => ?_)
        · refine z_gets dX10_passFault_67 kG_RX10_84 rfl (h1.fl (i := 2) (by decide)) ?_
          refine z_aret dX10_passFault_70 rfl (by decide) (by decide) (Or.inl ⟨_, rfl⟩) (Or.inr ⟨_, rfl⟩) ?_
          have e : fPass x.toInt y.toInt z.toInt = 2 := by
            unfold fPass
            repeat' split
            all_goals first | rfl | (exfalso; omega)
          rw [e]; exact ⟨rfl, rfl⟩
        · exact absurd h_54_6 (by decide)
      · refine z_iload_n dX10_passFault_40 rfl ?_
        refine z_bipush (v := nI 9) dX10_passFault_41 rfl ?_
        have hk8 := nI_toInt (n := 9) (by omega)
        refine z_icmp_gt_z (tgt := 50) dX10_passFault_43 (by decide) (fun h_43_7 => ?_) (fun h_43_7 => ?_)
        · refine z_iconst (v := nI 0) dX10_passFault_50 rfl ?_
          refine z_istore (lv' := [(0, .int (x)), (1, .int (y)), (2, .int (z)), (3, .int (nI (0))), (4, .int (nI (0))), (5, .int (nI (0)))]) dX10_passFault_51 (by decide) rfl ?_
          refine z_iload_n dX10_passFault_53 rfl ?_
          refine z_if_eq_n (a := 0) (tgt := 67) dX10_passFault_54 (by decide) (by omega) (fun h_54_9 => ?_) (fun h_54_9 => ?_)
          · refine z_gets dX10_passFault_67 kG_RX10_84 rfl (h1.fl (i := 2) (by decide)) ?_
            refine z_aret dX10_passFault_70 rfl (by decide) (by decide) (Or.inl ⟨_, rfl⟩) (Or.inr ⟨_, rfl⟩) ?_
            have e : fPass x.toInt y.toInt z.toInt = 2 := by
              unfold fPass
              repeat' split
              all_goals first | rfl | (exfalso; omega)
            rw [e]; exact ⟨rfl, rfl⟩
          · exact absurd h_54_9 (by decide)
        · refine z_iconst (v := nI 1) dX10_passFault_46 rfl ?_
          refine z_goto (tgt := 51) dX10_passFault_47 (by decide) ?_
          refine z_istore (lv' := [(0, .int (x)), (1, .int (y)), (2, .int (z)), (3, .int (nI (0))), (4, .int (nI (0))), (5, .int (nI (1)))]) dX10_passFault_51 (by decide) rfl ?_
          refine z_iload_n dX10_passFault_53 rfl ?_
          refine z_if_eq_n (a := 0) (tgt := 67) dX10_passFault_54 (by decide) (by omega) (fun h_54_10 => ?_) (fun h_54_10 => ?_)
          · refine z_gets dX10_passFault_67 kG_RX10_84 rfl (h1.fl (i := 2) (by decide)) ?_
            refine z_aret dX10_passFault_70 rfl (by decide) (by decide) (Or.inl ⟨_, rfl⟩) (Or.inr ⟨_, rfl⟩) ?_
            have e : fPass x.toInt y.toInt z.toInt = 2 := by
              unfold fPass
              repeat' split
              all_goals first | rfl | (exfalso; omega)
            rw [e]; exact ⟨rfl, rfl⟩
          · exact absurd h_54_10 (by decide)
    · refine z_iload_n dX10_passFault_22 rfl ?_
      refine z_bipush (v := nI 50) dX10_passFault_23 rfl ?_
      have hk12 := nI_toInt (n := 50) (by omega)
      refine z_icmp_gt_z (tgt := 32) dX10_passFault_25 (by decide) (fun h_25_11 => ?_) (fun h_25_11 => ?_)
      · refine z_iconst (v := nI 0) dX10_passFault_32 rfl ?_
        refine z_istore (lv' := [(0, .int (x)), (1, .int (y)), (2, .int (z)), (3, .int (nI (0))), (4, .int (nI (0)))]) dX10_passFault_33 (by decide) rfl ?_
        refine z_iload_n dX10_passFault_35 rfl ?_
        refine z_iconst (v := nI 1) dX10_passFault_36 rfl ?_
        have hk14 := nI_toInt (n := 1) (by omega)
        refine z_icmp_lt_z (tgt := 50) dX10_passFault_37 (by decide) (fun h_37_13 => ?_) (fun h_37_13 => ?_)
        · refine z_iconst (v := nI 0) dX10_passFault_50 rfl ?_
          refine z_istore (lv' := [(0, .int (x)), (1, .int (y)), (2, .int (z)), (3, .int (nI (0))), (4, .int (nI (0))), (5, .int (nI (0)))]) dX10_passFault_51 (by decide) rfl ?_
          refine z_iload_n dX10_passFault_53 rfl ?_
          refine z_if_eq_n (a := 0) (tgt := 67) dX10_passFault_54 (by decide) (by omega) (fun h_54_15 => ?_) (fun h_54_15 => ?_)
          · refine z_gets dX10_passFault_67 kG_RX10_84 rfl (h1.fl (i := 2) (by decide)) ?_
            refine z_aret dX10_passFault_70 rfl (by decide) (by decide) (Or.inl ⟨_, rfl⟩) (Or.inr ⟨_, rfl⟩) ?_
            have e : fPass x.toInt y.toInt z.toInt = 2 := by
              unfold fPass
              repeat' split
              all_goals first | rfl | (exfalso; omega)
            rw [e]; exact ⟨rfl, rfl⟩
          · exact absurd h_54_15 (by decide)
        · refine z_iload_n dX10_passFault_40 rfl ?_
          refine z_bipush (v := nI 9) dX10_passFault_41 rfl ?_
          have hk17 := nI_toInt (n := 9) (by omega)
          refine z_icmp_gt_z (tgt := 50) dX10_passFault_43 (by decide) (fun h_43_16 => ?_) (fun h_43_16 => ?_)
          · refine z_iconst (v := nI 0) dX10_passFault_50 rfl ?_
            refine z_istore (lv' := [(0, .int (x)), (1, .int (y)), (2, .int (z)), (3, .int (nI (0))), (4, .int (nI (0))), (5, .int (nI (0)))]) dX10_passFault_51 (by decide) rfl ?_
            refine z_iload_n dX10_passFault_53 rfl ?_
            refine z_if_eq_n (a := 0) (tgt := 67) dX10_passFault_54 (by decide) (by omega) (fun h_54_18 => ?_) (fun h_54_18 => ?_)
            · refine z_gets dX10_passFault_67 kG_RX10_84 rfl (h1.fl (i := 2) (by decide)) ?_
              refine z_aret dX10_passFault_70 rfl (by decide) (by decide) (Or.inl ⟨_, rfl⟩) (Or.inr ⟨_, rfl⟩) ?_
              have e : fPass x.toInt y.toInt z.toInt = 2 := by
                unfold fPass
                repeat' split
                all_goals first | rfl | (exfalso; omega)
              rw [e]; exact ⟨rfl, rfl⟩
            · exact absurd h_54_18 (by decide)
          · refine z_iconst (v := nI 1) dX10_passFault_46 rfl ?_
            refine z_goto (tgt := 51) dX10_passFault_47 (by decide) ?_
            refine z_istore (lv' := [(0, .int (x)), (1, .int (y)), (2, .int (z)), (3, .int (nI (0))), (4, .int (nI (0))), (5, .int (nI (1)))]) dX10_passFault_51 (by decide) rfl ?_
            refine z_iload_n dX10_passFault_53 rfl ?_
            refine z_if_eq_n (a := 0) (tgt := 67) dX10_passFault_54 (by decide) (by omega) (fun h_54_19 => ?_) (fun h_54_19 => ?_)
            · refine z_gets dX10_passFault_67 kG_RX10_84 rfl (h1.fl (i := 2) (by decide)) ?_
              refine z_aret dX10_passFault_70 rfl (by decide) (by decide) (Or.inl ⟨_, rfl⟩) (Or.inr ⟨_, rfl⟩) ?_
              have e : fPass x.toInt y.toInt z.toInt = 2 := by
                unfold fPass
                repeat' split
                all_goals first | rfl | (exfalso; omega)
              rw [e]; exact ⟨rfl, rfl⟩
            · exact absurd h_54_19 (by decide)
      · refine z_iconst (v := nI 1) dX10_passFault_28 rfl ?_
        refine z_goto (tgt := 33) dX10_passFault_29 (by decide) ?_
        refine z_istore (lv' := [(0, .int (x)), (1, .int (y)), (2, .int (z)), (3, .int (nI (0))), (4, .int (nI (1)))]) dX10_passFault_33 (by decide) rfl ?_
        refine z_iload_n dX10_passFault_35 rfl ?_
        refine z_iconst (v := nI 1) dX10_passFault_36 rfl ?_
        have hk21 := nI_toInt (n := 1) (by omega)
        refine z_icmp_lt_z (tgt := 50) dX10_passFault_37 (by decide) (fun h_37_20 => ?_) (fun h_37_20 => ?_)
        · refine z_iconst (v := nI 0) dX10_passFault_50 rfl ?_
          refine z_istore (lv' := [(0, .int (x)), (1, .int (y)), (2, .int (z)), (3, .int (nI (0))), (4, .int (nI (1))), (5, .int (nI (0)))]) dX10_passFault_51 (by decide) rfl ?_
          refine z_iload_n dX10_passFault_53 rfl ?_
          refine z_if_eq_n (a := 0) (tgt := 67) dX10_passFault_54 (by decide) (by omega) (fun h_54_22 => ?_) (fun h_54_22 => ?_)
          · refine z_gets dX10_passFault_67 kG_RX10_84 rfl (h1.fl (i := 2) (by decide)) ?_
            refine z_aret dX10_passFault_70 rfl (by decide) (by decide) (Or.inl ⟨_, rfl⟩) (Or.inr ⟨_, rfl⟩) ?_
            have e : fPass x.toInt y.toInt z.toInt = 2 := by
              unfold fPass
              repeat' split
              all_goals first | rfl | (exfalso; omega)
            rw [e]; exact ⟨rfl, rfl⟩
          · exact absurd h_54_22 (by decide)
        · refine z_iload_n dX10_passFault_40 rfl ?_
          refine z_bipush (v := nI 9) dX10_passFault_41 rfl ?_
          have hk24 := nI_toInt (n := 9) (by omega)
          refine z_icmp_gt_z (tgt := 50) dX10_passFault_43 (by decide) (fun h_43_23 => ?_) (fun h_43_23 => ?_)
          · refine z_iconst (v := nI 0) dX10_passFault_50 rfl ?_
            refine z_istore (lv' := [(0, .int (x)), (1, .int (y)), (2, .int (z)), (3, .int (nI (0))), (4, .int (nI (1))), (5, .int (nI (0)))]) dX10_passFault_51 (by decide) rfl ?_
            refine z_iload_n dX10_passFault_53 rfl ?_
            refine z_if_eq_n (a := 0) (tgt := 67) dX10_passFault_54 (by decide) (by omega) (fun h_54_25 => ?_) (fun h_54_25 => ?_)
            · refine z_gets dX10_passFault_67 kG_RX10_84 rfl (h1.fl (i := 2) (by decide)) ?_
              refine z_aret dX10_passFault_70 rfl (by decide) (by decide) (Or.inl ⟨_, rfl⟩) (Or.inr ⟨_, rfl⟩) ?_
              have e : fPass x.toInt y.toInt z.toInt = 2 := by
                unfold fPass
                repeat' split
                all_goals first | rfl | (exfalso; omega)
              rw [e]; exact ⟨rfl, rfl⟩
            · exact absurd h_54_25 (by decide)
          · refine z_iconst (v := nI 1) dX10_passFault_46 rfl ?_
            refine z_goto (tgt := 51) dX10_passFault_47 (by decide) ?_
            refine z_istore (lv' := [(0, .int (x)), (1, .int (y)), (2, .int (z)), (3, .int (nI (0))), (4, .int (nI (1))), (5, .int (nI (1)))]) dX10_passFault_51 (by decide) rfl ?_
            refine z_iload_n dX10_passFault_53 rfl ?_
            refine z_if_eq_n (a := 0) (tgt := 67) dX10_passFault_54 (by decide) (by omega) (fun h_54_26 => ?_) (fun h_54_26 => ?_)
            · refine z_gets dX10_passFault_67 kG_RX10_84 rfl (h1.fl (i := 2) (by decide)) ?_
              refine z_aret dX10_passFault_70 rfl (by decide) (by decide) (Or.inl ⟨_, rfl⟩) (Or.inr ⟨_, rfl⟩) ?_
              have e : fPass x.toInt y.toInt z.toInt = 2 := by
                unfold fPass
                repeat' split
                all_goals first | rfl | (exfalso; omega)
              rw [e]; exact ⟨rfl, rfl⟩
            · exact absurd h_54_26 (by decide)
  · refine z_iload_n dX10_passFault_4 rfl ?_
    refine z_sipush (v := nI 200) dX10_passFault_5 rfl ?_
    have hk28 := nI_toInt (n := 200) (by omega)
    refine z_icmp_ge_z (tgt := 15) dX10_passFault_8 (by decide) (fun h_8_27 => ?_) (fun h_8_27 => ?_)
    · refine z_iconst (v := nI 0) dX10_passFault_15 rfl ?_
      refine z_istore_n (lv' := [(0, .int (x)), (1, .int (y)), (2, .int (z)), (3, .int (nI (0)))]) dX10_passFault_16 (by decide) rfl ?_
      refine z_iload_n dX10_passFault_17 rfl ?_
      refine z_iconst (v := nI 1) dX10_passFault_18 rfl ?_
      have hk30 := nI_toInt (n := 1) (by omega)
      refine z_icmp_lt_z (tgt := 32) dX10_passFault_19 (by decide) (fun h_19_29 => ?_) (fun h_19_29 => ?_)
      · refine z_iconst (v := nI 0) dX10_passFault_32 rfl ?_
        refine z_istore (lv' := [(0, .int (x)), (1, .int (y)), (2, .int (z)), (3, .int (nI (0))), (4, .int (nI (0)))]) dX10_passFault_33 (by decide) rfl ?_
        refine z_iload_n dX10_passFault_35 rfl ?_
        refine z_iconst (v := nI 1) dX10_passFault_36 rfl ?_
        have hk32 := nI_toInt (n := 1) (by omega)
        refine z_icmp_lt_z (tgt := 50) dX10_passFault_37 (by decide) (fun h_37_31 => ?_) (fun h_37_31 => ?_)
        · refine z_iconst (v := nI 0) dX10_passFault_50 rfl ?_
          refine z_istore (lv' := [(0, .int (x)), (1, .int (y)), (2, .int (z)), (3, .int (nI (0))), (4, .int (nI (0))), (5, .int (nI (0)))]) dX10_passFault_51 (by decide) rfl ?_
          refine z_iload_n dX10_passFault_53 rfl ?_
          refine z_if_eq_n (a := 0) (tgt := 67) dX10_passFault_54 (by decide) (by omega) (fun h_54_33 => ?_) (fun h_54_33 => ?_)
          · refine z_gets dX10_passFault_67 kG_RX10_84 rfl (h1.fl (i := 2) (by decide)) ?_
            refine z_aret dX10_passFault_70 rfl (by decide) (by decide) (Or.inl ⟨_, rfl⟩) (Or.inr ⟨_, rfl⟩) ?_
            have e : fPass x.toInt y.toInt z.toInt = 2 := by
              unfold fPass
              repeat' split
              all_goals first | rfl | (exfalso; omega)
            rw [e]; exact ⟨rfl, rfl⟩
          · exact absurd h_54_33 (by decide)
        · refine z_iload_n dX10_passFault_40 rfl ?_
          refine z_bipush (v := nI 9) dX10_passFault_41 rfl ?_
          have hk35 := nI_toInt (n := 9) (by omega)
          refine z_icmp_gt_z (tgt := 50) dX10_passFault_43 (by decide) (fun h_43_34 => ?_) (fun h_43_34 => ?_)
          · refine z_iconst (v := nI 0) dX10_passFault_50 rfl ?_
            refine z_istore (lv' := [(0, .int (x)), (1, .int (y)), (2, .int (z)), (3, .int (nI (0))), (4, .int (nI (0))), (5, .int (nI (0)))]) dX10_passFault_51 (by decide) rfl ?_
            refine z_iload_n dX10_passFault_53 rfl ?_
            refine z_if_eq_n (a := 0) (tgt := 67) dX10_passFault_54 (by decide) (by omega) (fun h_54_36 => ?_) (fun h_54_36 => ?_)
            · refine z_gets dX10_passFault_67 kG_RX10_84 rfl (h1.fl (i := 2) (by decide)) ?_
              refine z_aret dX10_passFault_70 rfl (by decide) (by decide) (Or.inl ⟨_, rfl⟩) (Or.inr ⟨_, rfl⟩) ?_
              have e : fPass x.toInt y.toInt z.toInt = 2 := by
                unfold fPass
                repeat' split
                all_goals first | rfl | (exfalso; omega)
              rw [e]; exact ⟨rfl, rfl⟩
            · exact absurd h_54_36 (by decide)
          · refine z_iconst (v := nI 1) dX10_passFault_46 rfl ?_
            refine z_goto (tgt := 51) dX10_passFault_47 (by decide) ?_
            refine z_istore (lv' := [(0, .int (x)), (1, .int (y)), (2, .int (z)), (3, .int (nI (0))), (4, .int (nI (0))), (5, .int (nI (1)))]) dX10_passFault_51 (by decide) rfl ?_
            refine z_iload_n dX10_passFault_53 rfl ?_
            refine z_if_eq_n (a := 0) (tgt := 67) dX10_passFault_54 (by decide) (by omega) (fun h_54_37 => ?_) (fun h_54_37 => ?_)
            · refine z_gets dX10_passFault_67 kG_RX10_84 rfl (h1.fl (i := 2) (by decide)) ?_
              refine z_aret dX10_passFault_70 rfl (by decide) (by decide) (Or.inl ⟨_, rfl⟩) (Or.inr ⟨_, rfl⟩) ?_
              have e : fPass x.toInt y.toInt z.toInt = 2 := by
                unfold fPass
                repeat' split
                all_goals first | rfl | (exfalso; omega)
              rw [e]; exact ⟨rfl, rfl⟩
            · exact absurd h_54_37 (by decide)
      · refine z_iload_n dX10_passFault_22 rfl ?_
        refine z_bipush (v := nI 50) dX10_passFault_23 rfl ?_
        have hk39 := nI_toInt (n := 50) (by omega)
        refine z_icmp_gt_z (tgt := 32) dX10_passFault_25 (by decide) (fun h_25_38 => ?_) (fun h_25_38 => ?_)
        · refine z_iconst (v := nI 0) dX10_passFault_32 rfl ?_
          refine z_istore (lv' := [(0, .int (x)), (1, .int (y)), (2, .int (z)), (3, .int (nI (0))), (4, .int (nI (0)))]) dX10_passFault_33 (by decide) rfl ?_
          refine z_iload_n dX10_passFault_35 rfl ?_
          refine z_iconst (v := nI 1) dX10_passFault_36 rfl ?_
          have hk41 := nI_toInt (n := 1) (by omega)
          refine z_icmp_lt_z (tgt := 50) dX10_passFault_37 (by decide) (fun h_37_40 => ?_) (fun h_37_40 => ?_)
          · refine z_iconst (v := nI 0) dX10_passFault_50 rfl ?_
            refine z_istore (lv' := [(0, .int (x)), (1, .int (y)), (2, .int (z)), (3, .int (nI (0))), (4, .int (nI (0))), (5, .int (nI (0)))]) dX10_passFault_51 (by decide) rfl ?_
            refine z_iload_n dX10_passFault_53 rfl ?_
            refine z_if_eq_n (a := 0) (tgt := 67) dX10_passFault_54 (by decide) (by omega) (fun h_54_42 => ?_) (fun h_54_42 => ?_)
            · refine z_gets dX10_passFault_67 kG_RX10_84 rfl (h1.fl (i := 2) (by decide)) ?_
              refine z_aret dX10_passFault_70 rfl (by decide) (by decide) (Or.inl ⟨_, rfl⟩) (Or.inr ⟨_, rfl⟩) ?_
              have e : fPass x.toInt y.toInt z.toInt = 2 := by
                unfold fPass
                repeat' split
                all_goals first | rfl | (exfalso; omega)
              rw [e]; exact ⟨rfl, rfl⟩
            · exact absurd h_54_42 (by decide)
          · refine z_iload_n dX10_passFault_40 rfl ?_
            refine z_bipush (v := nI 9) dX10_passFault_41 rfl ?_
            have hk44 := nI_toInt (n := 9) (by omega)
            refine z_icmp_gt_z (tgt := 50) dX10_passFault_43 (by decide) (fun h_43_43 => ?_) (fun h_43_43 => ?_)
            · refine z_iconst (v := nI 0) dX10_passFault_50 rfl ?_
              refine z_istore (lv' := [(0, .int (x)), (1, .int (y)), (2, .int (z)), (3, .int (nI (0))), (4, .int (nI (0))), (5, .int (nI (0)))]) dX10_passFault_51 (by decide) rfl ?_
              refine z_iload_n dX10_passFault_53 rfl ?_
              refine z_if_eq_n (a := 0) (tgt := 67) dX10_passFault_54 (by decide) (by omega) (fun h_54_45 => ?_) (fun h_54_45 => ?_)
              · refine z_gets dX10_passFault_67 kG_RX10_84 rfl (h1.fl (i := 2) (by decide)) ?_
                refine z_aret dX10_passFault_70 rfl (by decide) (by decide) (Or.inl ⟨_, rfl⟩) (Or.inr ⟨_, rfl⟩) ?_
                have e : fPass x.toInt y.toInt z.toInt = 2 := by
                  unfold fPass
                  repeat' split
                  all_goals first | rfl | (exfalso; omega)
                rw [e]; exact ⟨rfl, rfl⟩
              · exact absurd h_54_45 (by decide)
            · refine z_iconst (v := nI 1) dX10_passFault_46 rfl ?_
              refine z_goto (tgt := 51) dX10_passFault_47 (by decide) ?_
              refine z_istore (lv' := [(0, .int (x)), (1, .int (y)), (2, .int (z)), (3, .int (nI (0))), (4, .int (nI (0))), (5, .int (nI (1)))]) dX10_passFault_51 (by decide) rfl ?_
              refine z_iload_n dX10_passFault_53 rfl ?_
              refine z_if_eq_n (a := 0) (tgt := 67) dX10_passFault_54 (by decide) (by omega) (fun h_54_46 => ?_) (fun h_54_46 => ?_)
              · refine z_gets dX10_passFault_67 kG_RX10_84 rfl (h1.fl (i := 2) (by decide)) ?_
                refine z_aret dX10_passFault_70 rfl (by decide) (by decide) (Or.inl ⟨_, rfl⟩) (Or.inr ⟨_, rfl⟩) ?_
                have e : fPass x.toInt y.toInt z.toInt = 2 := by
                  unfold fPass
                  repeat' split
                  all_goals first | rfl | (exfalso; omega)
                rw [e]; exact ⟨rfl, rfl⟩
              · exact absurd h_54_46 (by decide)
        · refine z_iconst (v := nI 1) dX10_passFault_28 rfl ?_
          refine z_goto (tgt := 33) dX10_passFault_29 (by decide) ?_
          refine z_istore (lv' := [(0, .int (x)), (1, .int (y)), (2, .int (z)), (3, .int (nI (0))), (4, .int (nI (1)))]) dX10_passFault_33 (by decide) rfl ?_
          refine z_iload_n dX10_passFault_35 rfl ?_
          refine z_iconst (v := nI 1) dX10_passFault_36 rfl ?_
          have hk48 := nI_toInt (n := 1) (by omega)
          refine z_icmp_lt_z (tgt := 50) dX10_passFault_37 (by decide) (fun h_37_47 => ?_) (fun h_37_47 => ?_)
          · refine z_iconst (v := nI 0) dX10_passFault_50 rfl ?_
            refine z_istore (lv' := [(0, .int (x)), (1, .int (y)), (2, .int (z)), (3, .int (nI (0))), (4, .int (nI (1))), (5, .int (nI (0)))]) dX10_passFault_51 (by decide) rfl ?_
            refine z_iload_n dX10_passFault_53 rfl ?_
            refine z_if_eq_n (a := 0) (tgt := 67) dX10_passFault_54 (by decide) (by omega) (fun h_54_49 => ?_) (fun h_54_49 => ?_)
            · refine z_gets dX10_passFault_67 kG_RX10_84 rfl (h1.fl (i := 2) (by decide)) ?_
              refine z_aret dX10_passFault_70 rfl (by decide) (by decide) (Or.inl ⟨_, rfl⟩) (Or.inr ⟨_, rfl⟩) ?_
              have e : fPass x.toInt y.toInt z.toInt = 2 := by
                unfold fPass
                repeat' split
                all_goals first | rfl | (exfalso; omega)
              rw [e]; exact ⟨rfl, rfl⟩
            · exact absurd h_54_49 (by decide)
          · refine z_iload_n dX10_passFault_40 rfl ?_
            refine z_bipush (v := nI 9) dX10_passFault_41 rfl ?_
            have hk51 := nI_toInt (n := 9) (by omega)
            refine z_icmp_gt_z (tgt := 50) dX10_passFault_43 (by decide) (fun h_43_50 => ?_) (fun h_43_50 => ?_)
            · refine z_iconst (v := nI 0) dX10_passFault_50 rfl ?_
              refine z_istore (lv' := [(0, .int (x)), (1, .int (y)), (2, .int (z)), (3, .int (nI (0))), (4, .int (nI (1))), (5, .int (nI (0)))]) dX10_passFault_51 (by decide) rfl ?_
              refine z_iload_n dX10_passFault_53 rfl ?_
              refine z_if_eq_n (a := 0) (tgt := 67) dX10_passFault_54 (by decide) (by omega) (fun h_54_52 => ?_) (fun h_54_52 => ?_)
              · refine z_gets dX10_passFault_67 kG_RX10_84 rfl (h1.fl (i := 2) (by decide)) ?_
                refine z_aret dX10_passFault_70 rfl (by decide) (by decide) (Or.inl ⟨_, rfl⟩) (Or.inr ⟨_, rfl⟩) ?_
                have e : fPass x.toInt y.toInt z.toInt = 2 := by
                  unfold fPass
                  repeat' split
                  all_goals first | rfl | (exfalso; omega)
                rw [e]; exact ⟨rfl, rfl⟩
              · exact absurd h_54_52 (by decide)
            · refine z_iconst (v := nI 1) dX10_passFault_46 rfl ?_
              refine z_goto (tgt := 51) dX10_passFault_47 (by decide) ?_
              refine z_istore (lv' := [(0, .int (x)), (1, .int (y)), (2, .int (z)), (3, .int (nI (0))), (4, .int (nI (1))), (5, .int (nI (1)))]) dX10_passFault_51 (by decide) rfl ?_
              refine z_iload_n dX10_passFault_53 rfl ?_
              refine z_if_eq_n (a := 0) (tgt := 67) dX10_passFault_54 (by decide) (by omega) (fun h_54_53 => ?_) (fun h_54_53 => ?_)
              · refine z_gets dX10_passFault_67 kG_RX10_84 rfl (h1.fl (i := 2) (by decide)) ?_
                refine z_aret dX10_passFault_70 rfl (by decide) (by decide) (Or.inl ⟨_, rfl⟩) (Or.inr ⟨_, rfl⟩) ?_
                have e : fPass x.toInt y.toInt z.toInt = 2 := by
                  unfold fPass
                  repeat' split
                  all_goals first | rfl | (exfalso; omega)
                rw [e]; exact ⟨rfl, rfl⟩
              · exact absurd h_54_53 (by decide)
    · refine z_iconst (v := nI 1) dX10_passFault_11 rfl ?_
      refine z_goto (tgt := 16) dX10_passFault_12 (by decide) ?_
      refine z_istore_n (lv' := [(0, .int (x)), (1, .int (y)), (2, .int (z)), (3, .int (nI (1)))]) dX10_passFault_16 (by decide) rfl ?_
      refine z_iload_n dX10_passFault_17 rfl ?_
      refine z_iconst (v := nI 1) dX10_passFault_18 rfl ?_
      have hk55 := nI_toInt (n := 1) (by omega)
      refine z_icmp_lt_z (tgt := 32) dX10_passFault_19 (by decide) (fun h_19_54 => ?_) (fun h_19_54 => ?_)
      · refine z_iconst (v := nI 0) dX10_passFault_32 rfl ?_
        refine z_istore (lv' := [(0, .int (x)), (1, .int (y)), (2, .int (z)), (3, .int (nI (1))), (4, .int (nI (0)))]) dX10_passFault_33 (by decide) rfl ?_
        refine z_iload_n dX10_passFault_35 rfl ?_
        refine z_iconst (v := nI 1) dX10_passFault_36 rfl ?_
        have hk57 := nI_toInt (n := 1) (by omega)
        refine z_icmp_lt_z (tgt := 50) dX10_passFault_37 (by decide) (fun h_37_56 => ?_) (fun h_37_56 => ?_)
        · refine z_iconst (v := nI 0) dX10_passFault_50 rfl ?_
          refine z_istore (lv' := [(0, .int (x)), (1, .int (y)), (2, .int (z)), (3, .int (nI (1))), (4, .int (nI (0))), (5, .int (nI (0)))]) dX10_passFault_51 (by decide) rfl ?_
          refine z_iload_n dX10_passFault_53 rfl ?_
          refine z_if_eq_n (a := 1) (tgt := 67) dX10_passFault_54 (by decide) (by omega) (fun h_54_58 => ?_) (fun h_54_58 => ?_)
          · exact absurd h_54_58 (by decide)
          · refine z_iload dX10_passFault_57 rfl ?_
            refine z_if_eq_n (a := 0) (tgt := 67) dX10_passFault_59 (by decide) (by omega) (fun h_59_59 => ?_) (fun h_59_59 => ?_)
            · refine z_gets dX10_passFault_67 kG_RX10_84 rfl (h1.fl (i := 2) (by decide)) ?_
              refine z_aret dX10_passFault_70 rfl (by decide) (by decide) (Or.inl ⟨_, rfl⟩) (Or.inr ⟨_, rfl⟩) ?_
              have e : fPass x.toInt y.toInt z.toInt = 2 := by
                unfold fPass
                repeat' split
                all_goals first | rfl | (exfalso; omega)
              rw [e]; exact ⟨rfl, rfl⟩
            · exact absurd h_59_59 (by decide)
        · refine z_iload_n dX10_passFault_40 rfl ?_
          refine z_bipush (v := nI 9) dX10_passFault_41 rfl ?_
          have hk61 := nI_toInt (n := 9) (by omega)
          refine z_icmp_gt_z (tgt := 50) dX10_passFault_43 (by decide) (fun h_43_60 => ?_) (fun h_43_60 => ?_)
          · refine z_iconst (v := nI 0) dX10_passFault_50 rfl ?_
            refine z_istore (lv' := [(0, .int (x)), (1, .int (y)), (2, .int (z)), (3, .int (nI (1))), (4, .int (nI (0))), (5, .int (nI (0)))]) dX10_passFault_51 (by decide) rfl ?_
            refine z_iload_n dX10_passFault_53 rfl ?_
            refine z_if_eq_n (a := 1) (tgt := 67) dX10_passFault_54 (by decide) (by omega) (fun h_54_62 => ?_) (fun h_54_62 => ?_)
            · exact absurd h_54_62 (by decide)
            · refine z_iload dX10_passFault_57 rfl ?_
              refine z_if_eq_n (a := 0) (tgt := 67) dX10_passFault_59 (by decide) (by omega) (fun h_59_63 => ?_) (fun h_59_63 => ?_)
              · refine z_gets dX10_passFault_67 kG_RX10_84 rfl (h1.fl (i := 2) (by decide)) ?_
                refine z_aret dX10_passFault_70 rfl (by decide) (by decide) (Or.inl ⟨_, rfl⟩) (Or.inr ⟨_, rfl⟩) ?_
                have e : fPass x.toInt y.toInt z.toInt = 2 := by
                  unfold fPass
                  repeat' split
                  all_goals first | rfl | (exfalso; omega)
                rw [e]; exact ⟨rfl, rfl⟩
              · exact absurd h_59_63 (by decide)
          · refine z_iconst (v := nI 1) dX10_passFault_46 rfl ?_
            refine z_goto (tgt := 51) dX10_passFault_47 (by decide) ?_
            refine z_istore (lv' := [(0, .int (x)), (1, .int (y)), (2, .int (z)), (3, .int (nI (1))), (4, .int (nI (0))), (5, .int (nI (1)))]) dX10_passFault_51 (by decide) rfl ?_
            refine z_iload_n dX10_passFault_53 rfl ?_
            refine z_if_eq_n (a := 1) (tgt := 67) dX10_passFault_54 (by decide) (by omega) (fun h_54_64 => ?_) (fun h_54_64 => ?_)
            · exact absurd h_54_64 (by decide)
            · refine z_iload dX10_passFault_57 rfl ?_
              refine z_if_eq_n (a := 0) (tgt := 67) dX10_passFault_59 (by decide) (by omega) (fun h_59_65 => ?_) (fun h_59_65 => ?_)
              · refine z_gets dX10_passFault_67 kG_RX10_84 rfl (h1.fl (i := 2) (by decide)) ?_
                refine z_aret dX10_passFault_70 rfl (by decide) (by decide) (Or.inl ⟨_, rfl⟩) (Or.inr ⟨_, rfl⟩) ?_
                have e : fPass x.toInt y.toInt z.toInt = 2 := by
                  unfold fPass
                  repeat' split
                  all_goals first | rfl | (exfalso; omega)
                rw [e]; exact ⟨rfl, rfl⟩
              · exact absurd h_59_65 (by decide)
      · refine z_iload_n dX10_passFault_22 rfl ?_
        refine z_bipush (v := nI 50) dX10_passFault_23 rfl ?_
        have hk67 := nI_toInt (n := 50) (by omega)
        refine z_icmp_gt_z (tgt := 32) dX10_passFault_25 (by decide) (fun h_25_66 => ?_) (fun h_25_66 => ?_)
        · refine z_iconst (v := nI 0) dX10_passFault_32 rfl ?_
          refine z_istore (lv' := [(0, .int (x)), (1, .int (y)), (2, .int (z)), (3, .int (nI (1))), (4, .int (nI (0)))]) dX10_passFault_33 (by decide) rfl ?_
          refine z_iload_n dX10_passFault_35 rfl ?_
          refine z_iconst (v := nI 1) dX10_passFault_36 rfl ?_
          have hk69 := nI_toInt (n := 1) (by omega)
          refine z_icmp_lt_z (tgt := 50) dX10_passFault_37 (by decide) (fun h_37_68 => ?_) (fun h_37_68 => ?_)
          · refine z_iconst (v := nI 0) dX10_passFault_50 rfl ?_
            refine z_istore (lv' := [(0, .int (x)), (1, .int (y)), (2, .int (z)), (3, .int (nI (1))), (4, .int (nI (0))), (5, .int (nI (0)))]) dX10_passFault_51 (by decide) rfl ?_
            refine z_iload_n dX10_passFault_53 rfl ?_
            refine z_if_eq_n (a := 1) (tgt := 67) dX10_passFault_54 (by decide) (by omega) (fun h_54_70 => ?_) (fun h_54_70 => ?_)
            · exact absurd h_54_70 (by decide)
            · refine z_iload dX10_passFault_57 rfl ?_
              refine z_if_eq_n (a := 0) (tgt := 67) dX10_passFault_59 (by decide) (by omega) (fun h_59_71 => ?_) (fun h_59_71 => ?_)
              · refine z_gets dX10_passFault_67 kG_RX10_84 rfl (h1.fl (i := 2) (by decide)) ?_
                refine z_aret dX10_passFault_70 rfl (by decide) (by decide) (Or.inl ⟨_, rfl⟩) (Or.inr ⟨_, rfl⟩) ?_
                have e : fPass x.toInt y.toInt z.toInt = 2 := by
                  unfold fPass
                  repeat' split
                  all_goals first | rfl | (exfalso; omega)
                rw [e]; exact ⟨rfl, rfl⟩
              · exact absurd h_59_71 (by decide)
          · refine z_iload_n dX10_passFault_40 rfl ?_
            refine z_bipush (v := nI 9) dX10_passFault_41 rfl ?_
            have hk73 := nI_toInt (n := 9) (by omega)
            refine z_icmp_gt_z (tgt := 50) dX10_passFault_43 (by decide) (fun h_43_72 => ?_) (fun h_43_72 => ?_)
            · refine z_iconst (v := nI 0) dX10_passFault_50 rfl ?_
              refine z_istore (lv' := [(0, .int (x)), (1, .int (y)), (2, .int (z)), (3, .int (nI (1))), (4, .int (nI (0))), (5, .int (nI (0)))]) dX10_passFault_51 (by decide) rfl ?_
              refine z_iload_n dX10_passFault_53 rfl ?_
              refine z_if_eq_n (a := 1) (tgt := 67) dX10_passFault_54 (by decide) (by omega) (fun h_54_74 => ?_) (fun h_54_74 => ?_)
              · exact absurd h_54_74 (by decide)
              · refine z_iload dX10_passFault_57 rfl ?_
                refine z_if_eq_n (a := 0) (tgt := 67) dX10_passFault_59 (by decide) (by omega) (fun h_59_75 => ?_) (fun h_59_75 => ?_)
                · refine z_gets dX10_passFault_67 kG_RX10_84 rfl (h1.fl (i := 2) (by decide)) ?_
                  refine z_aret dX10_passFault_70 rfl (by decide) (by decide) (Or.inl ⟨_, rfl⟩) (Or.inr ⟨_, rfl⟩) ?_
                  have e : fPass x.toInt y.toInt z.toInt = 2 := by
                    unfold fPass
                    repeat' split
                    all_goals first | rfl | (exfalso; omega)
                  rw [e]; exact ⟨rfl, rfl⟩
                · exact absurd h_59_75 (by decide)
            · refine z_iconst (v := nI 1) dX10_passFault_46 rfl ?_
              refine z_goto (tgt := 51) dX10_passFault_47 (by decide) ?_
              refine z_istore (lv' := [(0, .int (x)), (1, .int (y)), (2, .int (z)), (3, .int (nI (1))), (4, .int (nI (0))), (5, .int (nI (1)))]) dX10_passFault_51 (by decide) rfl ?_
              refine z_iload_n dX10_passFault_53 rfl ?_
              refine z_if_eq_n (a := 1) (tgt := 67) dX10_passFault_54 (by decide) (by omega) (fun h_54_76 => ?_) (fun h_54_76 => ?_)
              · exact absurd h_54_76 (by decide)
              · refine z_iload dX10_passFault_57 rfl ?_
                refine z_if_eq_n (a := 0) (tgt := 67) dX10_passFault_59 (by decide) (by omega) (fun h_59_77 => ?_) (fun h_59_77 => ?_)
                · refine z_gets dX10_passFault_67 kG_RX10_84 rfl (h1.fl (i := 2) (by decide)) ?_
                  refine z_aret dX10_passFault_70 rfl (by decide) (by decide) (Or.inl ⟨_, rfl⟩) (Or.inr ⟨_, rfl⟩) ?_
                  have e : fPass x.toInt y.toInt z.toInt = 2 := by
                    unfold fPass
                    repeat' split
                    all_goals first | rfl | (exfalso; omega)
                  rw [e]; exact ⟨rfl, rfl⟩
                · exact absurd h_59_77 (by decide)
        · refine z_iconst (v := nI 1) dX10_passFault_28 rfl ?_
          refine z_goto (tgt := 33) dX10_passFault_29 (by decide) ?_
          refine z_istore (lv' := [(0, .int (x)), (1, .int (y)), (2, .int (z)), (3, .int (nI (1))), (4, .int (nI (1)))]) dX10_passFault_33 (by decide) rfl ?_
          refine z_iload_n dX10_passFault_35 rfl ?_
          refine z_iconst (v := nI 1) dX10_passFault_36 rfl ?_
          have hk79 := nI_toInt (n := 1) (by omega)
          refine z_icmp_lt_z (tgt := 50) dX10_passFault_37 (by decide) (fun h_37_78 => ?_) (fun h_37_78 => ?_)
          · refine z_iconst (v := nI 0) dX10_passFault_50 rfl ?_
            refine z_istore (lv' := [(0, .int (x)), (1, .int (y)), (2, .int (z)), (3, .int (nI (1))), (4, .int (nI (1))), (5, .int (nI (0)))]) dX10_passFault_51 (by decide) rfl ?_
            refine z_iload_n dX10_passFault_53 rfl ?_
            refine z_if_eq_n (a := 1) (tgt := 67) dX10_passFault_54 (by decide) (by omega) (fun h_54_80 => ?_) (fun h_54_80 => ?_)
            · exact absurd h_54_80 (by decide)
            · refine z_iload dX10_passFault_57 rfl ?_
              refine z_if_eq_n (a := 1) (tgt := 67) dX10_passFault_59 (by decide) (by omega) (fun h_59_81 => ?_) (fun h_59_81 => ?_)
              · exact absurd h_59_81 (by decide)
              · refine z_iload dX10_passFault_62 rfl ?_
                refine z_if_ne_n (a := 0) (tgt := 71) dX10_passFault_64 (by decide) (by omega) (fun h_64_82 => ?_) (fun h_64_82 => ?_)
                · exact absurd h_64_82 (by decide)
                · refine z_gets dX10_passFault_67 kG_RX10_84 rfl (h1.fl (i := 2) (by decide)) ?_
                  refine z_aret dX10_passFault_70 rfl (by decide) (by decide) (Or.inl ⟨_, rfl⟩) (Or.inr ⟨_, rfl⟩) ?_
                  have e : fPass x.toInt y.toInt z.toInt = 2 := by
                    unfold fPass
                    repeat' split
                    all_goals first | rfl | (exfalso; omega)
                  rw [e]; exact ⟨rfl, rfl⟩
          · refine z_iload_n dX10_passFault_40 rfl ?_
            refine z_bipush (v := nI 9) dX10_passFault_41 rfl ?_
            have hk84 := nI_toInt (n := 9) (by omega)
            refine z_icmp_gt_z (tgt := 50) dX10_passFault_43 (by decide) (fun h_43_83 => ?_) (fun h_43_83 => ?_)
            · refine z_iconst (v := nI 0) dX10_passFault_50 rfl ?_
              refine z_istore (lv' := [(0, .int (x)), (1, .int (y)), (2, .int (z)), (3, .int (nI (1))), (4, .int (nI (1))), (5, .int (nI (0)))]) dX10_passFault_51 (by decide) rfl ?_
              refine z_iload_n dX10_passFault_53 rfl ?_
              refine z_if_eq_n (a := 1) (tgt := 67) dX10_passFault_54 (by decide) (by omega) (fun h_54_85 => ?_) (fun h_54_85 => ?_)
              · exact absurd h_54_85 (by decide)
              · refine z_iload dX10_passFault_57 rfl ?_
                refine z_if_eq_n (a := 1) (tgt := 67) dX10_passFault_59 (by decide) (by omega) (fun h_59_86 => ?_) (fun h_59_86 => ?_)
                · exact absurd h_59_86 (by decide)
                · refine z_iload dX10_passFault_62 rfl ?_
                  refine z_if_ne_n (a := 0) (tgt := 71) dX10_passFault_64 (by decide) (by omega) (fun h_64_87 => ?_) (fun h_64_87 => ?_)
                  · exact absurd h_64_87 (by decide)
                  · refine z_gets dX10_passFault_67 kG_RX10_84 rfl (h1.fl (i := 2) (by decide)) ?_
                    refine z_aret dX10_passFault_70 rfl (by decide) (by decide) (Or.inl ⟨_, rfl⟩) (Or.inr ⟨_, rfl⟩) ?_
                    have e : fPass x.toInt y.toInt z.toInt = 2 := by
                      unfold fPass
                      repeat' split
                      all_goals first | rfl | (exfalso; omega)
                    rw [e]; exact ⟨rfl, rfl⟩
            · refine z_iconst (v := nI 1) dX10_passFault_46 rfl ?_
              refine z_goto (tgt := 51) dX10_passFault_47 (by decide) ?_
              refine z_istore (lv' := [(0, .int (x)), (1, .int (y)), (2, .int (z)), (3, .int (nI (1))), (4, .int (nI (1))), (5, .int (nI (1)))]) dX10_passFault_51 (by decide) rfl ?_
              refine z_iload_n dX10_passFault_53 rfl ?_
              refine z_if_eq_n (a := 1) (tgt := 67) dX10_passFault_54 (by decide) (by omega) (fun h_54_88 => ?_) (fun h_54_88 => ?_)
              · exact absurd h_54_88 (by decide)
              · refine z_iload dX10_passFault_57 rfl ?_
                refine z_if_eq_n (a := 1) (tgt := 67) dX10_passFault_59 (by decide) (by omega) (fun h_59_89 => ?_) (fun h_59_89 => ?_)
                · exact absurd h_59_89 (by decide)
                · refine z_iload dX10_passFault_62 rfl ?_
                  refine z_if_ne_n (a := 1) (tgt := 71) dX10_passFault_64 (by decide) (by omega) (fun h_64_90 => ?_) (fun h_64_90 => ?_)
                  · refine z_iload_n dX10_passFault_71 rfl ?_
                    refine z_iload_n dX10_passFault_72 rfl ?_
                    refine z_iadd dX10_passFault_73 ?_
                    refine z_sipush (v := nI 200) dX10_passFault_74 rfl ?_
                    have e_add : (x + y).toInt = (x).toInt + (y).toInt := i_add (by have := i_rng x; have := i_rng y; omega) (by have := i_rng x; have := i_rng y; omega)
                    have hk92 := nI_toInt (n := 200) (by omega)
                    refine z_icmp_le_z (tgt := 86) dX10_passFault_77 (by decide) (fun h_77_91 => ?_) (fun h_77_91 => ?_)
                    · refine z_gets dX10_passFault_86 kG_RX10_75 rfl (h1.fl (i := 0) (by decide)) ?_
                      refine z_aret dX10_passFault_89 rfl (by decide) (by decide) (Or.inl ⟨_, rfl⟩) (Or.inr ⟨_, rfl⟩) ?_
                      have e : fPass x.toInt y.toInt z.toInt = 0 := by
                        unfold fPass
                        repeat' split
                        all_goals first | rfl | (exfalso; omega)
                      rw [e]; exact ⟨rfl, rfl⟩
                    · refine z_gets dX10_passFault_80 kG_RX10_87 rfl (h1.fl (i := 3) (by decide)) ?_
                      refine z_goto (tgt := 89) dX10_passFault_83 (by decide) ?_
                      refine z_aret dX10_passFault_89 rfl (by decide) (by decide) (Or.inl ⟨_, rfl⟩) (Or.inr ⟨_, rfl⟩) ?_
                      have e : fPass x.toInt y.toInt z.toInt = 3 := by
                        unfold fPass
                        repeat' split
                        all_goals first | rfl | (exfalso; omega)
                      rw [e]; exact ⟨rfl, rfl⟩
                  · exact absurd h_64_90 (by decide)
set_option maxRecDepth 100000 in
set_option maxHeartbeats 4000000 in
theorem c_X10_ins {g : zGT} {w : zW} {b n c tr : Nat} {F G : Nat → Nat} {L : List Nat} {x : Int32} (h0 : zG0 g) (h1 : zST g) (hS : Sy g w b F n L G c tr) : zCt g mX10_isInsertionTime (zR 1 0) [.ref (za g b), .int (x)] w (fun o w' => o = .inl (some (.int (nI (if 0 ≤ x.toInt ∧ x.toInt ≤ n then 1 else 0)))) ∧ w' = w) := by
  obtain ⟨hb, hw, hT, hM, hG⟩ := id hS
  have hn := hT.len
  have hcl := hG.len
  refine zCt_of (by decide +kernel) h0 [(0, .ref (za g b)), (1, .int (x))] rfl (Nat.le_of_ble_eq_true rfl) ?_
  have e_n := nI_toInt (n := n) (by omega)
  refine z_iload_n dX10_isInsertionTime_0 rfl ?_
  refine z_if_lt_z (tgt := 19) dX10_isInsertionTime_1 (by decide) (fun h_1_1 => ?_) (fun h_1_1 => ?_)
  · refine z_iconst (v := nI 0) dX10_isInsertionTime_19 rfl ?_
    refine z_zret (ty := .boolean) dX10_isInsertionTime_20 rfl (by decide) (by decide) rfl ?_
    first | exact ⟨by rw [if_pos (by omega)], rfl⟩ | exact ⟨by rw [if_neg (by omega)], rfl⟩
  · refine z_iload_n dX10_isInsertionTime_4 rfl ?_
    refine z_aload_n dX10_isInsertionTime_5 rfl ?_
    refine z_getf (j := b) dX10_isInsertionTime_6 kF_RX10_12 rfl (by omega) hw rfl ?_
    refine z_callE (As := []) (rest := [.int (x)]) (b := b + 1) (ci := 5) (v := some (.int (nI (n)))) (R2 := zR 0 0) dX10_isInsertionTime_9 kV_RX10_104 rfl ⟨⟨by decide, by decide⟩, by decide, by decide⟩ (by omega) hT.cell rfl rfl rfl (Nat.le_of_ble_eq_true rfl) rfl (tc_size h0 hT) ?_
    have hk4 := nI_toInt (n := n) (by omega)
    refine z_icmp_gt_z (tgt := 19) dX10_isInsertionTime_12 (by decide) (fun h_12_3 => ?_) (fun h_12_3 => ?_)
    · refine z_iconst (v := nI 0) dX10_isInsertionTime_19 rfl ?_
      refine z_zret (ty := .boolean) dX10_isInsertionTime_20 rfl (by decide) (by decide) rfl ?_
      first | exact ⟨by rw [if_pos (by omega)], rfl⟩ | exact ⟨by rw [if_neg (by omega)], rfl⟩
    · refine z_iconst (v := nI 1) dX10_isInsertionTime_15 rfl ?_
      refine z_goto (tgt := 20) dX10_isInsertionTime_16 (by decide) ?_
      refine z_zret (ty := .boolean) dX10_isInsertionTime_20 rfl (by decide) (by decide) rfl ?_
      first | exact ⟨by rw [if_pos (by omega)], rfl⟩ | exact ⟨by rw [if_neg (by omega)], rfl⟩
theorem c_X10_ins_y {g : zGT} {w : zW} {b n c tr : Nat} {F G : Nat → Nat} {L : List Nat} {x : Int32} (h0 : zG0 g) (h1 : zST g) (hS : Sy g w b F n L G c tr) (e : (0 ≤ x.toInt ∧ x.toInt ≤ n)) : zCt g mX10_isInsertionTime (zR 1 0) [.ref (za g b), .int x] w (fun o w' => o = .inl (some (.int (nI 1))) ∧ w' = w) := by
  have h := c_X10_ins (x := x) h0 h1 hS; rw [if_pos e] at h; exact h
theorem c_X10_ins_n {g : zGT} {w : zW} {b n c tr : Nat} {F G : Nat → Nat} {L : List Nat} {x : Int32} (h0 : zG0 g) (h1 : zST g) (hS : Sy g w b F n L G c tr) (e : ¬ (0 ≤ x.toInt ∧ x.toInt ≤ n)) : zCt g mX10_isInsertionTime (zR 1 0) [.ref (za g b), .int x] w (fun o w' => o = .inl (some (.int (nI 0))) ∧ w' = w) := by
  have h := c_X10_ins (x := x) h0 h1 hS; rw [if_neg e] at h; exact h
set_option maxRecDepth 100000 in
set_option maxHeartbeats 4000000 in
theorem c_X10_roomFault {g : zGT} {w : zW} {b n c tr : Nat} {F G : Nat → Nat} {L : List Nat} {x : Int32} (h0 : zG0 g) (h1 : zST g) (hS : Sy g w b F n L G c tr) (hx : -100000 ≤ x.toInt ∧ x.toInt ≤ 100000) : zCt g mX10_roomFault (zR 1 0) [.ref (za g b), .int (x)] w (fun o w' => o = .inl (some (.ref (ze g (if 200 < (n : Int) + x.toInt then 3 else 0)))) ∧ w' = w) := by
  obtain ⟨hb, hw, hT, hM, hG⟩ := id hS
  have hn := hT.len
  have hcl := hG.len
  refine zCt_of (by decide +kernel) h0 [(0, .ref (za g b)), (1, .int (x))] rfl (Nat.le_of_ble_eq_true rfl) ?_
  have e_n := nI_toInt (n := n) (by omega)
  have e_r := i_rng x
  have e_a : (nI n + x).toInt = (n : Int) + x.toInt := by rw [← e_n]; exact i_add (by omega) (by omega)
  refine z_aload_n dX10_roomFault_0 rfl ?_
  refine z_getf (j := b) dX10_roomFault_1 kF_RX10_12 rfl (by omega) hw rfl ?_
  refine z_callE (As := []) (rest := []) (b := b + 1) (ci := 5) (v := some (.int (nI (n)))) (R2 := zR 0 0) dX10_roomFault_4 kV_RX10_104 rfl ⟨⟨by decide, by decide⟩, by decide, by decide⟩ (by omega) hT.cell rfl rfl rfl (Nat.le_of_ble_eq_true rfl) rfl (tc_size h0 hT) ?_
  refine z_iload_n dX10_roomFault_7 rfl ?_
  refine z_iadd dX10_roomFault_8 ?_
  refine z_sipush (v := nI 200) dX10_roomFault_9 rfl ?_
  have hk3 := nI_toInt (n := 200) (by omega)
  refine z_icmp_le_z (tgt := 21) dX10_roomFault_12 (by decide) (fun h_12_2 => ?_) (fun h_12_2 => ?_)
  · refine z_gets dX10_roomFault_21 kG_RX10_75 rfl (h1.fl (i := 0) (by decide)) ?_
    refine z_aret dX10_roomFault_24 rfl (by decide) (by decide) (Or.inl ⟨_, rfl⟩) (Or.inr ⟨_, rfl⟩) ?_
    first | exact ⟨by rw [if_pos (by omega)], rfl⟩ | exact ⟨by rw [if_neg (by omega)], rfl⟩
  · refine z_gets dX10_roomFault_15 kG_RX10_87 rfl (h1.fl (i := 3) (by decide)) ?_
    refine z_goto (tgt := 24) dX10_roomFault_18 (by decide) ?_
    refine z_aret dX10_roomFault_24 rfl (by decide) (by decide) (Or.inl ⟨_, rfl⟩) (Or.inr ⟨_, rfl⟩) ?_
    first | exact ⟨by rw [if_pos (by omega)], rfl⟩ | exact ⟨by rw [if_neg (by omega)], rfl⟩
theorem c_X10_room_y {g : zGT} {w : zW} {b n c tr : Nat} {F G : Nat → Nat} {L : List Nat} {x : Int32} (h0 : zG0 g) (h1 : zST g) (hS : Sy g w b F n L G c tr) (hx : -100000 ≤ x.toInt ∧ x.toInt ≤ 100000) (e : (200 < (n : Int) + x.toInt)) : zCt g mX10_roomFault (zR 1 0) [.ref (za g b), .int x] w (fun o w' => o = .inl (some (.ref (ze g 3))) ∧ w' = w) := by
  have h := c_X10_roomFault (x := x) h0 h1 hS hx; rw [if_pos e] at h; exact h
theorem c_X10_room_n {g : zGT} {w : zW} {b n c tr : Nat} {F G : Nat → Nat} {L : List Nat} {x : Int32} (h0 : zG0 g) (h1 : zST g) (hS : Sy g w b F n L G c tr) (hx : -100000 ≤ x.toInt ∧ x.toInt ≤ 100000) (e : ¬ (200 < (n : Int) + x.toInt)) : zCt g mX10_roomFault (zR 1 0) [.ref (za g b), .int x] w (fun o w' => o = .inl (some (.ref (ze g 0))) ∧ w' = w) := by
  have h := c_X10_roomFault (x := x) h0 h1 hS hx; rw [if_neg e] at h; exact h
set_option maxRecDepth 100000 in
set_option maxHeartbeats 4000000 in
theorem c_X10_restFault {g : zGT} {w : zW} {b n c tr : Nat} {F G : Nat → Nat} {L : List Nat} {x y : Int32} (h0 : zG0 g) (h1 : zST g) (hS : Sy g w b F n L G c tr) : zCt g mX10_restFault (zR 2 0) [.ref (za g b), .int (x), .int (y)] w (fun o w' => o = .inl (some (.ref (ze g (fRest n x.toInt y.toInt)))) ∧ w' = w) := by
  obtain ⟨hb, hw, hT, hM, hG⟩ := id hS
  have hn := hT.len
  have hcl := hG.len
  refine zCt_of (by decide +kernel) h0 [(0, .ref (za g b)), (1, .int (x)), (2, .int (y))] rfl (Nat.le_of_ble_eq_true rfl) ?_
  refine z_aload_n dX10_restFault_0 rfl ?_
  refine z_iload_n dX10_restFault_1 rfl ?_
  by_cases hc1 : 0 ≤ ((x)).toInt ∧ ((x)).toInt ≤ (n : Nat)
  · refine z_callE (As := [.int (x)]) (rest := []) (b := b) (ci := 10) (v := some (.int (nI (1)))) (R2 := zR 1 0) dX10_restFault_2 kV_RX10_90 rfl ⟨⟨by decide, by decide⟩, by decide, by decide⟩ (by omega) hw rfl rfl rfl (Nat.le_of_ble_eq_true rfl) rfl (c_X10_ins_y h0 h1 hS hc1) ?_
    refine z_if_ne_n (a := 1) (tgt := 12) dX10_restFault_5 (by decide) (by omega) (fun h_5_3 => ?_) (fun h_5_3 => ?_)
    · refine z_iload_n dX10_restFault_12 rfl ?_
      refine z_iconst (v := nI 1) dX10_restFault_13 rfl ?_
      have hk5 := nI_toInt (n := 1) (by omega)
      refine z_icmp_lt_z (tgt := 23) dX10_restFault_14 (by decide) (fun h_14_4 => ?_) (fun h_14_4 => ?_)
      · refine z_gets dX10_restFault_23 kG_RX10_84 rfl (h1.fl (i := 2) (by decide)) ?_
        refine z_aret dX10_restFault_26 rfl (by decide) (by decide) (Or.inl ⟨_, rfl⟩) (Or.inr ⟨_, rfl⟩) ?_
        have e : fRest n x.toInt y.toInt = 2 := by
          unfold fRest
          repeat' split
          all_goals first | rfl | (exfalso; omega)
        rw [e]; exact ⟨rfl, rfl⟩
      · refine z_iload_n dX10_restFault_17 rfl ?_
        refine z_bipush (v := nI 50) dX10_restFault_18 rfl ?_
        have hk7 := nI_toInt (n := 50) (by omega)
        refine z_icmp_le_z (tgt := 27) dX10_restFault_20 (by decide) (fun h_20_6 => ?_) (fun h_20_6 => ?_)
        · refine z_aload_n dX10_restFault_27 rfl ?_
          refine z_iload_n dX10_restFault_28 rfl ?_
          by_cases hc8 : 200 < (n : Int) + ((y)).toInt
          · refine z_callE (As := [.int (y)]) (rest := []) (b := b) (ci := 10) (v := some (.ref (ze g 3))) (R2 := zR 1 0) dX10_restFault_29 kV_RX10_97 rfl ⟨⟨by decide, by decide⟩, by decide, by decide⟩ (by omega) hw rfl rfl rfl (Nat.le_of_ble_eq_true rfl) rfl ((c_X10_room_y (x := (y)) h0 h1 hS (by omega) hc8)) ?_
            refine z_aret dX10_restFault_32 rfl (by decide) (by decide) (Or.inl ⟨_, rfl⟩) (Or.inr ⟨_, rfl⟩) ?_
            have e : fRest n x.toInt y.toInt = 3 := by
              unfold fRest
              repeat' split
              all_goals first | rfl | (exfalso; omega)
            rw [e]; exact ⟨rfl, rfl⟩
          · refine z_callE (As := [.int (y)]) (rest := []) (b := b) (ci := 10) (v := some (.ref (ze g 0))) (R2 := zR 1 0) dX10_restFault_29 kV_RX10_97 rfl ⟨⟨by decide, by decide⟩, by decide, by decide⟩ (by omega) hw rfl rfl rfl (Nat.le_of_ble_eq_true rfl) rfl ((c_X10_room_n (x := (y)) h0 h1 hS (by omega) hc8)) ?_
            refine z_aret dX10_restFault_32 rfl (by decide) (by decide) (Or.inl ⟨_, rfl⟩) (Or.inr ⟨_, rfl⟩) ?_
            have e : fRest n x.toInt y.toInt = 0 := by
              unfold fRest
              repeat' split
              all_goals first | rfl | (exfalso; omega)
            rw [e]; exact ⟨rfl, rfl⟩
        · refine z_gets dX10_restFault_23 kG_RX10_84 rfl (h1.fl (i := 2) (by decide)) ?_
          refine z_aret dX10_restFault_26 rfl (by decide) (by decide) (Or.inl ⟨_, rfl⟩) (Or.inr ⟨_, rfl⟩) ?_
          have e : fRest n x.toInt y.toInt = 2 := by
            unfold fRest
            repeat' split
            all_goals first | rfl | (exfalso; omega)
          rw [e]; exact ⟨rfl, rfl⟩
    · exact absurd h_5_3 (by decide)
  · refine z_callE (As := [.int (x)]) (rest := []) (b := b) (ci := 10) (v := some (.int (nI (0)))) (R2 := zR 1 0) dX10_restFault_2 kV_RX10_90 rfl ⟨⟨by decide, by decide⟩, by decide, by decide⟩ (by omega) hw rfl rfl rfl (Nat.le_of_ble_eq_true rfl) rfl (c_X10_ins_n h0 h1 hS hc1) ?_
    refine z_if_ne_n (a := 0) (tgt := 12) dX10_restFault_5 (by decide) (by omega) (fun h_5_12 => ?_) (fun h_5_12 => ?_)
    · exact absurd h_5_12 (by decide)
    · refine z_gets dX10_restFault_8 kG_RX10_94 rfl (h1.fl (i := 1) (by decide)) ?_
      refine z_aret dX10_restFault_11 rfl (by decide) (by decide) (Or.inl ⟨_, rfl⟩) (Or.inr ⟨_, rfl⟩) ?_
      have e : fRest n x.toInt y.toInt = 1 := by
        unfold fRest
        repeat' split
        all_goals first | rfl | (exfalso; omega)
      rw [e]; exact ⟨rfl, rfl⟩
set_option maxRecDepth 100000 in
set_option maxHeartbeats 4000000 in
theorem c_X10_modulateFault {g : zGT} {w : zW} {b n c tr : Nat} {F G : Nat → Nat} {L : List Nat} {x y z : Int32} (h0 : zG0 g) (h1 : zST g) (hS : Sy g w b F n L G c tr) : zCt g mX10_modulateFault (zR 2 0) [.ref (za g b), .int (x), .int (y), .int (z)] w (fun o w' => o = .inl (some (.ref (ze g (fMod n x.toInt y.toInt z.toInt)))) ∧ w' = w) := by
  obtain ⟨hb, hw, hT, hM, hG⟩ := id hS
  have hn := hT.len
  have hcl := hG.len
  refine zCt_of (by decide +kernel) h0 [(0, .ref (za g b)), (1, .int (x)), (2, .int (y)), (3, .int (z))] rfl (Nat.le_of_ble_eq_true rfl) ?_
  refine z_aload_n dX10_modulateFault_0 rfl ?_
  refine z_getf (j := b) dX10_modulateFault_1 kF_RX10_12 rfl (by omega) hw rfl ?_
  refine z_iload_n dX10_modulateFault_4 rfl ?_
  refine z_iload_n dX10_modulateFault_5 rfl ?_
  by_cases hc1 : 0 ≤ ((x)).toInt ∧ ((x)).toInt ≤ ((y)).toInt ∧ ((y)).toInt ≤ (n : Nat)
  · refine z_callE (As := [.int (x), .int (y)]) (rest := []) (b := b + 1) (ci := 5) (v := some (.int (nI (1)))) (R2 := zR 0 0) dX10_modulateFault_6 kV_RX10_100 rfl ⟨⟨by decide, by decide⟩, by decide, by decide⟩ (by omega) hT.cell rfl rfl rfl (Nat.le_of_ble_eq_true rfl) rfl (tc_hasInterval_y h0 hT hc1) ?_
    refine z_if_ne_n (a := 1) (tgt := 16) dX10_modulateFault_9 (by decide) (by omega) (fun h_9_3 => ?_) (fun h_9_3 => ?_)
    · refine z_iload_n dX10_modulateFault_16 rfl ?_
      refine z_if_eq_z (tgt := 36) dX10_modulateFault_17 (by decide) (fun h_17_4 => ?_) (fun h_17_4 => ?_)
      · refine z_iconst (v := nI 0) dX10_modulateFault_36 rfl ?_
        refine z_istore (lv' := [(0, .ref (za g b)), (1, .int (x)), (2, .int (y)), (3, .int (z)), (4, .int (nI (0)))]) dX10_modulateFault_37 (by decide) rfl ?_
        refine z_iload dX10_modulateFault_39 rfl ?_
        refine z_if_eq_n (a := 0) (tgt := 50) dX10_modulateFault_41 (by decide) (by omega) (fun h_41_5 => ?_) (fun h_41_5 => ?_)
        · refine z_gets dX10_modulateFault_50 kG_RX10_84 rfl (h1.fl (i := 2) (by decide)) ?_
          refine z_aret dX10_modulateFault_53 rfl (by decide) (by decide) (Or.inl ⟨_, rfl⟩) (Or.inr ⟨_, rfl⟩) ?_
          have e : fMod n x.toInt y.toInt z.toInt = 2 := by
            unfold fMod
            repeat' split
            all_goals first | rfl | (exfalso; omega)
          rw [e]; exact ⟨rfl, rfl⟩
        · exact absurd h_41_5 (by decide)
      · refine z_iload_n dX10_modulateFault_20 rfl ?_
        refine z_bipush (v := -8) dX10_modulateFault_21 rfl ?_
        have hk7 : (-8 : Int32).toInt = -8 := by decide
        refine z_icmp_lt_z (tgt := 36) dX10_modulateFault_23 (by decide) (fun h_23_6 => ?_) (fun h_23_6 => ?_)
        · refine z_iconst (v := nI 0) dX10_modulateFault_36 rfl ?_
          refine z_istore (lv' := [(0, .ref (za g b)), (1, .int (x)), (2, .int (y)), (3, .int (z)), (4, .int (nI (0)))]) dX10_modulateFault_37 (by decide) rfl ?_
          refine z_iload dX10_modulateFault_39 rfl ?_
          refine z_if_eq_n (a := 0) (tgt := 50) dX10_modulateFault_41 (by decide) (by omega) (fun h_41_8 => ?_) (fun h_41_8 => ?_)
          · refine z_gets dX10_modulateFault_50 kG_RX10_84 rfl (h1.fl (i := 2) (by decide)) ?_
            refine z_aret dX10_modulateFault_53 rfl (by decide) (by decide) (Or.inl ⟨_, rfl⟩) (Or.inr ⟨_, rfl⟩) ?_
            have e : fMod n x.toInt y.toInt z.toInt = 2 := by
              unfold fMod
              repeat' split
              all_goals first | rfl | (exfalso; omega)
            rw [e]; exact ⟨rfl, rfl⟩
          · exact absurd h_41_8 (by decide)
        · refine z_iload_n dX10_modulateFault_26 rfl ?_
          refine z_bipush (v := nI 8) dX10_modulateFault_27 rfl ?_
          have hk10 := nI_toInt (n := 8) (by omega)
          refine z_icmp_gt_z (tgt := 36) dX10_modulateFault_29 (by decide) (fun h_29_9 => ?_) (fun h_29_9 => ?_)
          · refine z_iconst (v := nI 0) dX10_modulateFault_36 rfl ?_
            refine z_istore (lv' := [(0, .ref (za g b)), (1, .int (x)), (2, .int (y)), (3, .int (z)), (4, .int (nI (0)))]) dX10_modulateFault_37 (by decide) rfl ?_
            refine z_iload dX10_modulateFault_39 rfl ?_
            refine z_if_eq_n (a := 0) (tgt := 50) dX10_modulateFault_41 (by decide) (by omega) (fun h_41_11 => ?_) (fun h_41_11 => ?_)
            · refine z_gets dX10_modulateFault_50 kG_RX10_84 rfl (h1.fl (i := 2) (by decide)) ?_
              refine z_aret dX10_modulateFault_53 rfl (by decide) (by decide) (Or.inl ⟨_, rfl⟩) (Or.inr ⟨_, rfl⟩) ?_
              have e : fMod n x.toInt y.toInt z.toInt = 2 := by
                unfold fMod
                repeat' split
                all_goals first | rfl | (exfalso; omega)
              rw [e]; exact ⟨rfl, rfl⟩
            · exact absurd h_41_11 (by decide)
          · refine z_iconst (v := nI 1) dX10_modulateFault_32 rfl ?_
            refine z_goto (tgt := 37) dX10_modulateFault_33 (by decide) ?_
            refine z_istore (lv' := [(0, .ref (za g b)), (1, .int (x)), (2, .int (y)), (3, .int (z)), (4, .int (nI (1)))]) dX10_modulateFault_37 (by decide) rfl ?_
            refine z_iload dX10_modulateFault_39 rfl ?_
            refine z_if_eq_n (a := 1) (tgt := 50) dX10_modulateFault_41 (by decide) (by omega) (fun h_41_12 => ?_) (fun h_41_12 => ?_)
            · exact absurd h_41_12 (by decide)
            · refine z_gets dX10_modulateFault_44 kG_RX10_75 rfl (h1.fl (i := 0) (by decide)) ?_
              refine z_goto (tgt := 53) dX10_modulateFault_47 (by decide) ?_
              refine z_aret dX10_modulateFault_53 rfl (by decide) (by decide) (Or.inl ⟨_, rfl⟩) (Or.inr ⟨_, rfl⟩) ?_
              have e : fMod n x.toInt y.toInt z.toInt = 0 := by
                unfold fMod
                repeat' split
                all_goals first | rfl | (exfalso; omega)
              rw [e]; exact ⟨rfl, rfl⟩
    · exact absurd h_9_3 (by decide)
  · refine z_callE (As := [.int (x), .int (y)]) (rest := []) (b := b + 1) (ci := 5) (v := some (.int (nI (0)))) (R2 := zR 0 0) dX10_modulateFault_6 kV_RX10_100 rfl ⟨⟨by decide, by decide⟩, by decide, by decide⟩ (by omega) hT.cell rfl rfl rfl (Nat.le_of_ble_eq_true rfl) rfl (tc_hasInterval_n h0 hT hc1) ?_
    refine z_if_ne_n (a := 0) (tgt := 16) dX10_modulateFault_9 (by decide) (by omega) (fun h_9_14 => ?_) (fun h_9_14 => ?_)
    · exact absurd h_9_14 (by decide)
    · refine z_gets dX10_modulateFault_12 kG_RX10_94 rfl (h1.fl (i := 1) (by decide)) ?_
      refine z_aret dX10_modulateFault_15 rfl (by decide) (by decide) (Or.inl ⟨_, rfl⟩) (Or.inr ⟨_, rfl⟩) ?_
      have e : fMod n x.toInt y.toInt z.toInt = 1 := by
        unfold fMod
        repeat' split
        all_goals first | rfl | (exfalso; omega)
      rw [e]; exact ⟨rfl, rfl⟩
set_option maxRecDepth 100000 in
set_option maxHeartbeats 4000000 in
theorem c_X10_repeatFault {g : zGT} {w : zW} {b n c tr : Nat} {F G : Nat → Nat} {L : List Nat} {x y z : Int32} (h0 : zG0 g) (h1 : zST g) (hS : Sy g w b F n L G c tr) : zCt g mX10_repeatFault (zR 2 0) [.ref (za g b), .int (x), .int (y), .int (z)] w (fun o w' => o = .inl (some (.ref (ze g (fRep n x.toInt y.toInt z.toInt)))) ∧ w' = w) := by
  obtain ⟨hb, hw, hT, hM, hG⟩ := id hS
  have hn := hT.len
  have hcl := hG.len
  refine zCt_of (by decide +kernel) h0 [(0, .ref (za g b)), (1, .int (x)), (2, .int (y)), (3, .int (z))] rfl (Nat.le_of_ble_eq_true rfl) ?_
  refine z_aload_n dX10_repeatFault_0 rfl ?_
  refine z_getf (j := b) dX10_repeatFault_1 kF_RX10_12 rfl (by omega) hw rfl ?_
  refine z_iload_n dX10_repeatFault_4 rfl ?_
  refine z_iload_n dX10_repeatFault_5 rfl ?_
  by_cases hc1 : 0 ≤ ((x)).toInt ∧ ((x)).toInt ≤ ((y)).toInt ∧ ((y)).toInt ≤ (n : Nat)
  · refine z_callE (As := [.int (x), .int (y)]) (rest := []) (b := b + 1) (ci := 5) (v := some (.int (nI (1)))) (R2 := zR 0 0) dX10_repeatFault_6 kV_RX10_100 rfl ⟨⟨by decide, by decide⟩, by decide, by decide⟩ (by omega) hT.cell rfl rfl rfl (Nat.le_of_ble_eq_true rfl) rfl (tc_hasInterval_y h0 hT hc1) ?_
    refine z_if_ne_n (a := 1) (tgt := 16) dX10_repeatFault_9 (by decide) (by omega) (fun h_9_3 => ?_) (fun h_9_3 => ?_)
    · refine z_iload_n dX10_repeatFault_16 rfl ?_
      refine z_iconst (v := nI 1) dX10_repeatFault_17 rfl ?_
      have hk5 := nI_toInt (n := 1) (by omega)
      refine z_icmp_lt_z (tgt := 27) dX10_repeatFault_18 (by decide) (fun h_18_4 => ?_) (fun h_18_4 => ?_)
      · refine z_gets dX10_repeatFault_27 kG_RX10_84 rfl (h1.fl (i := 2) (by decide)) ?_
        refine z_aret dX10_repeatFault_30 rfl (by decide) (by decide) (Or.inl ⟨_, rfl⟩) (Or.inr ⟨_, rfl⟩) ?_
        have e : fRep n x.toInt y.toInt z.toInt = 2 := by
          unfold fRep
          repeat' split
          all_goals first | rfl | (exfalso; omega)
        rw [e]; exact ⟨rfl, rfl⟩
      · refine z_iload_n dX10_repeatFault_21 rfl ?_
        refine z_bipush (v := nI 9) dX10_repeatFault_22 rfl ?_
        have hk7 := nI_toInt (n := 9) (by omega)
        refine z_icmp_le_z (tgt := 31) dX10_repeatFault_24 (by decide) (fun h_24_6 => ?_) (fun h_24_6 => ?_)
        · refine z_aload_n dX10_repeatFault_31 rfl ?_
          refine z_iload_n dX10_repeatFault_32 rfl ?_
          refine z_iload_n dX10_repeatFault_33 rfl ?_
          refine z_isub dX10_repeatFault_34 ?_
          refine z_iload_n dX10_repeatFault_35 rfl ?_
          refine z_imul dX10_repeatFault_36 ?_
          have e_s : (y - x).toInt = y.toInt - x.toInt := i_sub (by omega) (by omega)
          have hb1 : 0 ≤ (y.toInt - x.toInt) * z.toInt := Int.mul_nonneg (by omega) (by omega)
          have hb2 : (y.toInt - x.toInt) * z.toInt ≤ 200 * 9 := Int.mul_le_mul (by omega) (by omega) (by omega) (by omega)
          have e_m : ((y - x) * z).toInt = (y.toInt - x.toInt) * z.toInt := by rw [← e_s]; exact i_mul (by rw [e_s]; omega) (by rw [e_s]; omega)
          by_cases hc8 : 200 < (n : Int) + ((((y) - (x)) * (z))).toInt
          · refine z_callE (As := [.int (((y) - (x)) * (z))]) (rest := []) (b := b) (ci := 10) (v := some (.ref (ze g 3))) (R2 := zR 1 0) dX10_repeatFault_37 kV_RX10_97 rfl ⟨⟨by decide, by decide⟩, by decide, by decide⟩ (by omega) hw rfl rfl rfl (Nat.le_of_ble_eq_true rfl) rfl ((c_X10_room_y (x := (((y) - (x)) * (z))) h0 h1 hS (by omega) hc8)) ?_
            refine z_aret dX10_repeatFault_40 rfl (by decide) (by decide) (Or.inl ⟨_, rfl⟩) (Or.inr ⟨_, rfl⟩) ?_
            have e : fRep n x.toInt y.toInt z.toInt = 3 := by
              unfold fRep
              repeat' split
              all_goals first | rfl | (exfalso; omega)
            rw [e]; exact ⟨rfl, rfl⟩
          · refine z_callE (As := [.int (((y) - (x)) * (z))]) (rest := []) (b := b) (ci := 10) (v := some (.ref (ze g 0))) (R2 := zR 1 0) dX10_repeatFault_37 kV_RX10_97 rfl ⟨⟨by decide, by decide⟩, by decide, by decide⟩ (by omega) hw rfl rfl rfl (Nat.le_of_ble_eq_true rfl) rfl ((c_X10_room_n (x := (((y) - (x)) * (z))) h0 h1 hS (by omega) hc8)) ?_
            refine z_aret dX10_repeatFault_40 rfl (by decide) (by decide) (Or.inl ⟨_, rfl⟩) (Or.inr ⟨_, rfl⟩) ?_
            have e : fRep n x.toInt y.toInt z.toInt = 0 := by
              unfold fRep
              repeat' split
              all_goals first | rfl | (exfalso; omega)
            rw [e]; exact ⟨rfl, rfl⟩
        · refine z_gets dX10_repeatFault_27 kG_RX10_84 rfl (h1.fl (i := 2) (by decide)) ?_
          refine z_aret dX10_repeatFault_30 rfl (by decide) (by decide) (Or.inl ⟨_, rfl⟩) (Or.inr ⟨_, rfl⟩) ?_
          have e : fRep n x.toInt y.toInt z.toInt = 2 := by
            unfold fRep
            repeat' split
            all_goals first | rfl | (exfalso; omega)
          rw [e]; exact ⟨rfl, rfl⟩
    · exact absurd h_9_3 (by decide)
  · refine z_callE (As := [.int (x), .int (y)]) (rest := []) (b := b + 1) (ci := 5) (v := some (.int (nI (0)))) (R2 := zR 0 0) dX10_repeatFault_6 kV_RX10_100 rfl ⟨⟨by decide, by decide⟩, by decide, by decide⟩ (by omega) hT.cell rfl rfl rfl (Nat.le_of_ble_eq_true rfl) rfl (tc_hasInterval_n h0 hT hc1) ?_
    refine z_if_ne_n (a := 0) (tgt := 16) dX10_repeatFault_9 (by decide) (by omega) (fun h_9_12 => ?_) (fun h_9_12 => ?_)
    · exact absurd h_9_12 (by decide)
    · refine z_gets dX10_repeatFault_12 kG_RX10_94 rfl (h1.fl (i := 1) (by decide)) ?_
      refine z_aret dX10_repeatFault_15 rfl (by decide) (by decide) (Or.inl ⟨_, rfl⟩) (Or.inr ⟨_, rfl⟩) ?_
      have e : fRep n x.toInt y.toInt z.toInt = 1 := by
        unfold fRep
        repeat' split
        all_goals first | rfl | (exfalso; omega)
      rw [e]; exact ⟨rfl, rfl⟩
set_option maxRecDepth 100000 in
set_option maxHeartbeats 4000000 in
theorem c_X10_pasteFault {g : zGT} {w : zW} {b n c tr : Nat} {F G : Nat → Nat} {L : List Nat} {x : Int32} (h0 : zG0 g) (h1 : zST g) (hS : Sy g w b F n L G c tr) : zCt g mX10_pasteFault (zR 2 0) [.ref (za g b), .int (x)] w (fun o w' => o = .inl (some (.ref (ze g (fPas n c x.toInt)))) ∧ w' = w) := by
  obtain ⟨hb, hw, hT, hM, hG⟩ := id hS
  have hn := hT.len
  have hcl := hG.len
  refine zCt_of (by decide +kernel) h0 [(0, .ref (za g b)), (1, .int (x))] rfl (Nat.le_of_ble_eq_true rfl) ?_
  have e_c := nI_toInt (n := c) (by omega)
  refine z_aload_n dX10_pasteFault_0 rfl ?_
  refine z_iload_n dX10_pasteFault_1 rfl ?_
  by_cases hc1 : 0 ≤ ((x)).toInt ∧ ((x)).toInt ≤ (n : Nat)
  · refine z_callE (As := [.int (x)]) (rest := []) (b := b) (ci := 10) (v := some (.int (nI (1)))) (R2 := zR 1 0) dX10_pasteFault_2 kV_RX10_90 rfl ⟨⟨by decide, by decide⟩, by decide, by decide⟩ (by omega) hw rfl rfl rfl (Nat.le_of_ble_eq_true rfl) rfl (c_X10_ins_y h0 h1 hS hc1) ?_
    refine z_if_ne_n (a := 1) (tgt := 12) dX10_pasteFault_5 (by decide) (by omega) (fun h_5_3 => ?_) (fun h_5_3 => ?_)
    · refine z_aload_n dX10_pasteFault_12 rfl ?_
      refine z_getf (j := b) dX10_pasteFault_13 kF_RX10_25 rfl (by omega) hw rfl ?_
      refine z_callE (As := []) (rest := []) (b := b + 5) (ci := 5) (v := some (.int (nI (c)))) (R2 := zR 0 0) dX10_pasteFault_16 kV_RX10_104 rfl ⟨⟨by decide, by decide⟩, by decide, by decide⟩ (by omega) hG.cell rfl rfl rfl (Nat.le_of_ble_eq_true rfl) rfl (tc_size h0 hG) ?_
      refine z_if_ne_n (a := c) (tgt := 26) dX10_pasteFault_19 (by decide) (by omega) (fun h_19_5 => ?_) (fun h_19_5 => ?_)
      · refine z_aload_n dX10_pasteFault_26 rfl ?_
        refine z_aload_n dX10_pasteFault_27 rfl ?_
        refine z_getf (j := b) dX10_pasteFault_28 kF_RX10_25 rfl (by omega) hw rfl ?_
        refine z_callE (As := []) (rest := [.ref (za g b)]) (b := b + 5) (ci := 5) (v := some (.int (nI (c)))) (R2 := zR 0 0) dX10_pasteFault_31 kV_RX10_104 rfl ⟨⟨by decide, by decide⟩, by decide, by decide⟩ (by omega) hG.cell rfl rfl rfl (Nat.le_of_ble_eq_true rfl) rfl (tc_size h0 hG) ?_
        by_cases hc7 : 200 < (n : Int) + ((nI (c))).toInt
        · refine z_callE (As := [.int (nI (c))]) (rest := []) (b := b) (ci := 10) (v := some (.ref (ze g 3))) (R2 := zR 1 0) dX10_pasteFault_34 kV_RX10_97 rfl ⟨⟨by decide, by decide⟩, by decide, by decide⟩ (by omega) hw rfl rfl rfl (Nat.le_of_ble_eq_true rfl) rfl ((c_X10_room_y (x := (nI (c))) h0 h1 hS (by omega) hc7)) ?_
          refine z_aret dX10_pasteFault_37 rfl (by decide) (by decide) (Or.inl ⟨_, rfl⟩) (Or.inr ⟨_, rfl⟩) ?_
          have e : fPas n c x.toInt = 3 := by
            unfold fPas
            repeat' split
            all_goals first | rfl | (exfalso; omega)
          rw [e]; exact ⟨rfl, rfl⟩
        · refine z_callE (As := [.int (nI (c))]) (rest := []) (b := b) (ci := 10) (v := some (.ref (ze g 0))) (R2 := zR 1 0) dX10_pasteFault_34 kV_RX10_97 rfl ⟨⟨by decide, by decide⟩, by decide, by decide⟩ (by omega) hw rfl rfl rfl (Nat.le_of_ble_eq_true rfl) rfl ((c_X10_room_n (x := (nI (c))) h0 h1 hS (by omega) hc7)) ?_
          refine z_aret dX10_pasteFault_37 rfl (by decide) (by decide) (Or.inl ⟨_, rfl⟩) (Or.inr ⟨_, rfl⟩) ?_
          have e : fPas n c x.toInt = 0 := by
            unfold fPas
            repeat' split
            all_goals first | rfl | (exfalso; omega)
          rw [e]; exact ⟨rfl, rfl⟩
      · refine z_gets dX10_pasteFault_22 kG_RX10_107 rfl (h1.fl (i := 4) (by decide)) ?_
        refine z_aret dX10_pasteFault_25 rfl (by decide) (by decide) (Or.inl ⟨_, rfl⟩) (Or.inr ⟨_, rfl⟩) ?_
        have e : fPas n c x.toInt = 4 := by
          unfold fPas
          repeat' split
          all_goals first | rfl | (exfalso; omega)
        rw [e]; exact ⟨rfl, rfl⟩
    · exact absurd h_5_3 (by decide)
  · refine z_callE (As := [.int (x)]) (rest := []) (b := b) (ci := 10) (v := some (.int (nI (0)))) (R2 := zR 1 0) dX10_pasteFault_2 kV_RX10_90 rfl ⟨⟨by decide, by decide⟩, by decide, by decide⟩ (by omega) hw rfl rfl rfl (Nat.le_of_ble_eq_true rfl) rfl (c_X10_ins_n h0 h1 hS hc1) ?_
    refine z_if_ne_n (a := 0) (tgt := 12) dX10_pasteFault_5 (by decide) (by omega) (fun h_5_11 => ?_) (fun h_5_11 => ?_)
    · exact absurd h_5_11 (by decide)
    · refine z_gets dX10_pasteFault_8 kG_RX10_94 rfl (h1.fl (i := 1) (by decide)) ?_
      refine z_aret dX10_pasteFault_11 rfl (by decide) (by decide) (Or.inl ⟨_, rfl⟩) (Or.inr ⟨_, rfl⟩) ?_
      have e : fPas n c x.toInt = 1 := by
        unfold fPas
        repeat' split
        all_goals first | rfl | (exfalso; omega)
      rw [e]; exact ⟨rfl, rfl⟩
set_option maxRecDepth 100000 in
set_option maxHeartbeats 4000000 in
theorem c_X10_intervalFault {g : zGT} {w : zW} {b n c tr : Nat} {F G : Nat → Nat} {L : List Nat} {x y : Int32} (h0 : zG0 g) (h1 : zST g) (hS : Sy g w b F n L G c tr) : zCt g mX10_intervalFault (zR 2 0) [.ref (za g b), .int (x), .int (y)] w (fun o w' => o = .inl (some (.ref (ze g (fIv n x.toInt y.toInt)))) ∧ w' = w) := by
  obtain ⟨hb, hw, hT, hM, hG⟩ := id hS
  have hn := hT.len
  have hcl := hG.len
  refine zCt_of (by decide +kernel) h0 [(0, .ref (za g b)), (1, .int (x)), (2, .int (y))] rfl (Nat.le_of_ble_eq_true rfl) ?_
  refine z_aload_n dX10_intervalFault_0 rfl ?_
  refine z_getf (j := b) dX10_intervalFault_1 kF_RX10_12 rfl (by omega) hw rfl ?_
  refine z_iload_n dX10_intervalFault_4 rfl ?_
  refine z_iload_n dX10_intervalFault_5 rfl ?_
  by_cases hc1 : 0 ≤ ((x)).toInt ∧ ((x)).toInt ≤ ((y)).toInt ∧ ((y)).toInt ≤ (n : Nat)
  · refine z_callE (As := [.int (x), .int (y)]) (rest := []) (b := b + 1) (ci := 5) (v := some (.int (nI (1)))) (R2 := zR 0 0) dX10_intervalFault_6 kV_RX10_100 rfl ⟨⟨by decide, by decide⟩, by decide, by decide⟩ (by omega) hT.cell rfl rfl rfl (Nat.le_of_ble_eq_true rfl) rfl (tc_hasInterval_y h0 hT hc1) ?_
    refine z_if_eq_n (a := 1) (tgt := 18) dX10_intervalFault_9 (by decide) (by omega) (fun h_9_3 => ?_) (fun h_9_3 => ?_)
    · exact absurd h_9_3 (by decide)
    · refine z_gets dX10_intervalFault_12 kG_RX10_75 rfl (h1.fl (i := 0) (by decide)) ?_
      refine z_goto (tgt := 21) dX10_intervalFault_15 (by decide) ?_
      refine z_aret dX10_intervalFault_21 rfl (by decide) (by decide) (Or.inl ⟨_, rfl⟩) (Or.inr ⟨_, rfl⟩) ?_
      have e : fIv n x.toInt y.toInt = 0 := by
        unfold fIv
        repeat' split
        all_goals first | rfl | (exfalso; omega)
      rw [e]; exact ⟨rfl, rfl⟩
  · refine z_callE (As := [.int (x), .int (y)]) (rest := []) (b := b + 1) (ci := 5) (v := some (.int (nI (0)))) (R2 := zR 0 0) dX10_intervalFault_6 kV_RX10_100 rfl ⟨⟨by decide, by decide⟩, by decide, by decide⟩ (by omega) hT.cell rfl rfl rfl (Nat.le_of_ble_eq_true rfl) rfl (tc_hasInterval_n h0 hT hc1) ?_
    refine z_if_eq_n (a := 0) (tgt := 18) dX10_intervalFault_9 (by decide) (by omega) (fun h_9_5 => ?_) (fun h_9_5 => ?_)
    · refine z_gets dX10_intervalFault_18 kG_RX10_94 rfl (h1.fl (i := 1) (by decide)) ?_
      refine z_aret dX10_intervalFault_21 rfl (by decide) (by decide) (Or.inl ⟨_, rfl⟩) (Or.inr ⟨_, rfl⟩) ?_
      have e : fIv n x.toInt y.toInt = 1 := by
        unfold fIv
        repeat' split
        all_goals first | rfl | (exfalso; omega)
      rw [e]; exact ⟨rfl, rfl⟩
    · exact absurd h_9_5 (by decide)
theorem c_X6_isFull_y {g : zGT} {w : zW} {b : Nat} {L : List Nat} (h0 : zG0 g) (hL : Mk g w b L) (e : 6 ≤ L.length) : zCt g mX6_isFull (zR 0 0) [.ref (za g b)] w (fun o w' => o = .inl (some (.int (nI 1))) ∧ w' = w) := by
  have h := c_X6_isFull h0 hL; rw [if_pos e] at h; exact h
theorem c_X6_isFull_n {g : zGT} {w : zW} {b : Nat} {L : List Nat} (h0 : zG0 g) (hL : Mk g w b L) (e : ¬ (6 ≤ L.length)) : zCt g mX6_isFull (zR 0 0) [.ref (za g b)] w (fun o w' => o = .inl (some (.int (nI 0))) ∧ w' = w) := by
  have h := c_X6_isFull h0 hL; rw [if_neg e] at h; exact h
set_option maxRecDepth 100000 in
set_option maxHeartbeats 4000000 in
theorem c_X10_markFault {g : zGT} {w : zW} {b n c tr : Nat} {F G : Nat → Nat} {L : List Nat} {x : Int32} (h0 : zG0 g) (h1 : zST g) (hS : Sy g w b F n L G c tr) : zCt g mX10_markFault (zR 2 0) [.ref (za g b), .int (x)] w (fun o w' => o = .inl (some (.ref (ze g (fMark n L x.toInt)))) ∧ w' = w) := by
  obtain ⟨hb, hw, hT, hM, hG⟩ := id hS
  have hn := hT.len
  have hcl := hG.len
  refine zCt_of (by decide +kernel) h0 [(0, .ref (za g b)), (1, .int (x))] rfl (Nat.le_of_ble_eq_true rfl) ?_
  refine z_aload_n dX10_markFault_0 rfl ?_
  refine z_iload_n dX10_markFault_1 rfl ?_
  by_cases hc1 : 0 ≤ ((x)).toInt ∧ ((x)).toInt ≤ (n : Nat)
  · refine z_callE (As := [.int (x)]) (rest := []) (b := b) (ci := 10) (v := some (.int (nI (1)))) (R2 := zR 1 0) dX10_markFault_2 kV_RX10_90 rfl ⟨⟨by decide, by decide⟩, by decide, by decide⟩ (by omega) hw rfl rfl rfl (Nat.le_of_ble_eq_true rfl) rfl (c_X10_ins_y h0 h1 hS hc1) ?_
    refine z_if_ne_n (a := 1) (tgt := 12) dX10_markFault_5 (by decide) (by omega) (fun h_5_3 => ?_) (fun h_5_3 => ?_)
    · refine z_aload_n dX10_markFault_12 rfl ?_
      refine z_getf (j := b) dX10_markFault_13 kF_RX10_21 rfl (by omega) hw rfl ?_
      refine z_iload_n dX10_markFault_16 rfl ?_
      refine z_callE (As := [.int (x)]) (rest := []) (b := b + 3) (ci := 6) (v := some (.int (Int32.ofInt (lidx (fun j9 => decide ((j9 : Int) = ((x)).toInt)) L 0)))) (R2 := zR 1 0) dX10_markFault_17 kV_RX10_110 rfl ⟨⟨by decide, by decide⟩, by decide, by decide⟩ (by omega) hM.2.1 rfl rfl rfl (Nat.le_of_ble_eq_true rfl) rfl (c_X6_indexAt h0 hM) ?_
      refine z_iconst (v := -1) dX10_markFault_20 rfl ?_
      have e_i := lidx_toInt (fun y => decide ((y : Int) = x.toInt)) (L := L) hM.2.2.2.1
      have e_m : lidx (fun y => decide ((y : Int) = x.toInt)) L 0 = -1 ↔ x.toInt.toNat ∉ L := lidx_mem2 (by omega)
      have e_1 : (-1 : Int32).toInt = -1 := rfl
      have hk6 : (-1 : Int32).toInt = -1 := by decide
      refine z_icmp_ne_z (tgt := 28) dX10_markFault_21 (by decide) (fun h_21_5 => ?_) (fun h_21_5 => ?_)
      · refine z_iconst (v := nI 0) dX10_markFault_28 rfl ?_
        refine z_istore_n (lv' := [(0, .ref (za g b)), (1, .int (x)), (2, .int (nI (0)))]) dX10_markFault_29 (by decide) rfl ?_
        refine z_iload_n dX10_markFault_30 rfl ?_
        refine z_if_eq_n (a := 0) (tgt := 50) dX10_markFault_31 (by decide) (by omega) (fun h_31_7 => ?_) (fun h_31_7 => ?_)
        · refine z_gets dX10_markFault_50 kG_RX10_75 rfl (h1.fl (i := 0) (by decide)) ?_
          refine z_aret dX10_markFault_53 rfl (by decide) (by decide) (Or.inl ⟨_, rfl⟩) (Or.inr ⟨_, rfl⟩) ?_
          have e : fMark n L x.toInt = 0 := by
            unfold fMark; rw [if_pos (by omega)]
            rw [e_i] at *
            by_cases hm : x.toInt.toNat ∈ L
            · have q : lidx (fun y => decide ((y : Int) = x.toInt)) L 0 ≠ -1 := fun z => (e_m.mp z) hm
              first | (rw [if_neg (fun z => z.1 hm)]; done) | (exfalso; omega)
            · have q := e_m.mpr hm
              first | (rw [if_neg (fun z => absurd z.2 (by omega))]; done) | (rw [if_pos ⟨hm, by omega⟩]; done) | (exfalso; omega)
          rw [e]; exact ⟨rfl, rfl⟩
        · exact absurd h_31_7 (by decide)
      · refine z_iconst (v := nI 1) dX10_markFault_24 rfl ?_
        refine z_goto (tgt := 29) dX10_markFault_25 (by decide) ?_
        refine z_istore_n (lv' := [(0, .ref (za g b)), (1, .int (x)), (2, .int (nI (1)))]) dX10_markFault_29 (by decide) rfl ?_
        refine z_iload_n dX10_markFault_30 rfl ?_
        refine z_if_eq_n (a := 1) (tgt := 50) dX10_markFault_31 (by decide) (by omega) (fun h_31_8 => ?_) (fun h_31_8 => ?_)
        · exact absurd h_31_8 (by decide)
        · refine z_aload_n dX10_markFault_34 rfl ?_
          refine z_getf (j := b) dX10_markFault_35 kF_RX10_21 rfl (by omega) hw rfl ?_
          by_cases hc9 : 6 ≤ L.length
          · refine z_callE (As := []) (rest := []) (b := b + 3) (ci := 6) (v := some (.int (nI (1)))) (R2 := zR 0 0) dX10_markFault_38 kV_RX10_114 rfl ⟨⟨by decide, by decide⟩, by decide, by decide⟩ (by omega) hM.2.1 rfl rfl rfl (Nat.le_of_ble_eq_true rfl) rfl (c_X6_isFull_y h0 hM hc9) ?_
            refine z_if_eq_n (a := 1) (tgt := 50) dX10_markFault_41 (by decide) (by omega) (fun h_41_11 => ?_) (fun h_41_11 => ?_)
            · exact absurd h_41_11 (by decide)
            · refine z_gets dX10_markFault_44 kG_RX10_87 rfl (h1.fl (i := 3) (by decide)) ?_
              refine z_goto (tgt := 53) dX10_markFault_47 (by decide) ?_
              refine z_aret dX10_markFault_53 rfl (by decide) (by decide) (Or.inl ⟨_, rfl⟩) (Or.inr ⟨_, rfl⟩) ?_
              have e : fMark n L x.toInt = 3 := by
                unfold fMark; rw [if_pos (by omega)]
                rw [e_i] at *
                by_cases hm : x.toInt.toNat ∈ L
                · have q : lidx (fun y => decide ((y : Int) = x.toInt)) L 0 ≠ -1 := fun z => (e_m.mp z) hm
                  first | (rw [if_neg (fun z => z.1 hm)]; done) | (exfalso; omega)
                · have q := e_m.mpr hm
                  first | (rw [if_neg (fun z => absurd z.2 (by omega))]; done) | (rw [if_pos ⟨hm, by omega⟩]; done) | (exfalso; omega)
              rw [e]; exact ⟨rfl, rfl⟩
          · refine z_callE (As := []) (rest := []) (b := b + 3) (ci := 6) (v := some (.int (nI (0)))) (R2 := zR 0 0) dX10_markFault_38 kV_RX10_114 rfl ⟨⟨by decide, by decide⟩, by decide, by decide⟩ (by omega) hM.2.1 rfl rfl rfl (Nat.le_of_ble_eq_true rfl) rfl (c_X6_isFull_n h0 hM hc9) ?_
            refine z_if_eq_n (a := 0) (tgt := 50) dX10_markFault_41 (by decide) (by omega) (fun h_41_13 => ?_) (fun h_41_13 => ?_)
            · refine z_gets dX10_markFault_50 kG_RX10_75 rfl (h1.fl (i := 0) (by decide)) ?_
              refine z_aret dX10_markFault_53 rfl (by decide) (by decide) (Or.inl ⟨_, rfl⟩) (Or.inr ⟨_, rfl⟩) ?_
              have e : fMark n L x.toInt = 0 := by
                unfold fMark; rw [if_pos (by omega)]
                rw [e_i] at *
                by_cases hm : x.toInt.toNat ∈ L
                · have q : lidx (fun y => decide ((y : Int) = x.toInt)) L 0 ≠ -1 := fun z => (e_m.mp z) hm
                  first | (rw [if_neg (fun z => z.1 hm)]; done) | (exfalso; omega)
                · have q := e_m.mpr hm
                  first | (rw [if_neg (fun z => absurd z.2 (by omega))]; done) | (rw [if_pos ⟨hm, by omega⟩]; done) | (exfalso; omega)
              rw [e]; exact ⟨rfl, rfl⟩
            · exact absurd h_41_13 (by decide)
    · exact absurd h_5_3 (by decide)
  · refine z_callE (As := [.int (x)]) (rest := []) (b := b) (ci := 10) (v := some (.int (nI (0)))) (R2 := zR 1 0) dX10_markFault_2 kV_RX10_90 rfl ⟨⟨by decide, by decide⟩, by decide, by decide⟩ (by omega) hw rfl rfl rfl (Nat.le_of_ble_eq_true rfl) rfl (c_X10_ins_n h0 h1 hS hc1) ?_
    refine z_if_ne_n (a := 0) (tgt := 12) dX10_markFault_5 (by decide) (by omega) (fun h_5_15 => ?_) (fun h_5_15 => ?_)
    · exact absurd h_5_15 (by decide)
    · refine z_gets dX10_markFault_8 kG_RX10_94 rfl (h1.fl (i := 1) (by decide)) ?_
      refine z_aret dX10_markFault_11 rfl (by decide) (by decide) (Or.inl ⟨_, rfl⟩) (Or.inr ⟨_, rfl⟩) ?_
      exact ⟨by unfold fMark; rw [if_neg (by omega)], rfl⟩
