/-! the reference: its world -/
theorem z_iald_v {g : zGT} {M : zMD} {R : Room} {ce sl pc : Nat} {lv : List (Nat × Value)} {rest : List Value} {w : zW} {Post : zP} {j N a x : Nat} {f : Nat → Int32} (d : decode M.2.1 pc = .ok (.iaload, 1)) (hj : j < zn g) (hw : w j = zI g N f) (ha : a < N) (hN : N < 2 ^ 31) (hv : f a = nI x)
    (kk : zTr g M R ce sl (pc + 1) lv (.int (nI x) :: rest) w Post) : zTr g M R ce sl pc lv (.int (nI a) :: .ref (za g j) :: rest) w Post :=
  z_iald_n d hj hw ha hN (by rw [hv]; exact kk)
def wds : List Nat := zwd 0 ++ zwd 1 ++ zwd 2 ++ zwd 3 ++ zwd 4 ++ zwd 5 ++ zwd 6 ++ zwd 7 ++ zwd 8 ++ zwd 9 ++ zwd 10
def wat : List Nat := [0, 5, 10, 17, 22, 30, 35, 44, 51, 57, 62, 69]
def wdF : Nat → Int32 := fun k => nI (wds.getD k 0)
def waF : Nat → Int32 := fun k => nI (wat.getD k 0)
def Mx (g : zGT) (w : zW) (b : Nat) (th ch ea fa sv tn po en ln kn wr dg : Int32) (fv fb fs fp fh ft fl fi : Nat → Int32) : Prop := b + 10 < zn g ∧ w b = zO 12 [.int th, .int ch, .int ea, .int fa, .int sv, .ref (za g (b + 1)), .ref (za g (b + 2)), .ref (za g (b + 3)), .ref (za g (b + 4)), .ref (za g (b + 5)), .ref (za g (b + 6)), .ref (za g (b + 7)), .ref (za g (b + 8)), .ref (za g (b + 9)), .ref (za g (b + 10)), .int tn, .int po, .int en, .int ln, .int kn, .int wr, .int dg] ∧ w (b + 1) = zI g 410 fv ∧ w (b + 2) = zI g 410 fb ∧ w (b + 3) = zI g 410 fs ∧ w (b + 4) = zI g 3280 fp ∧ w (b + 5) = zI g 200 fh ∧ w (b + 6) = zI g 60 ft ∧ w (b + 7) = zI g 1200 fl ∧ w (b + 8) = zI g 11 fi ∧ w (b + 9) = zI g 69 wdF ∧ w (b + 10) = zI g 12 waF
section MX
variable {g : zGT} {w : zW} {b : Nat} {th ch ea fa sv tn po en ln kn wr dg : Int32} {fv fb fs fp fh ft fl fi : Nat → Int32}
theorem Mx.ce (h : Mx g w b th ch ea fa sv tn po en ln kn wr dg fv fb fs fp fh ft fl fi) : w b = zO 12 [.int th, .int ch, .int ea, .int fa, .int sv, .ref (za g (b + 1)), .ref (za g (b + 2)), .ref (za g (b + 3)), .ref (za g (b + 4)), .ref (za g (b + 5)), .ref (za g (b + 6)), .ref (za g (b + 7)), .ref (za g (b + 8)), .ref (za g (b + 9)), .ref (za g (b + 10)), .int tn, .int po, .int en, .int ln, .int kn, .int wr, .int dg] := h.2.1
theorem Mx.r1 (h : Mx g w b th ch ea fa sv tn po en ln kn wr dg fv fb fs fp fh ft fl fi) : w (b + 1) = zI g 410 fv := h.2.2.1
theorem Mx.r2 (h : Mx g w b th ch ea fa sv tn po en ln kn wr dg fv fb fs fp fh ft fl fi) : w (b + 2) = zI g 410 fb := h.2.2.2.1
theorem Mx.r3 (h : Mx g w b th ch ea fa sv tn po en ln kn wr dg fv fb fs fp fh ft fl fi) : w (b + 3) = zI g 410 fs := h.2.2.2.2.1
theorem Mx.r4 (h : Mx g w b th ch ea fa sv tn po en ln kn wr dg fv fb fs fp fh ft fl fi) : w (b + 4) = zI g 3280 fp := h.2.2.2.2.2.1
theorem Mx.r5 (h : Mx g w b th ch ea fa sv tn po en ln kn wr dg fv fb fs fp fh ft fl fi) : w (b + 5) = zI g 200 fh := h.2.2.2.2.2.2.1
theorem Mx.r6 (h : Mx g w b th ch ea fa sv tn po en ln kn wr dg fv fb fs fp fh ft fl fi) : w (b + 6) = zI g 60 ft := h.2.2.2.2.2.2.2.1
theorem Mx.r7 (h : Mx g w b th ch ea fa sv tn po en ln kn wr dg fv fb fs fp fh ft fl fi) : w (b + 7) = zI g 1200 fl := h.2.2.2.2.2.2.2.2.1
theorem Mx.r8 (h : Mx g w b th ch ea fa sv tn po en ln kn wr dg fv fb fs fp fh ft fl fi) : w (b + 8) = zI g 11 fi := h.2.2.2.2.2.2.2.2.2.1
theorem Mx.r9 (h : Mx g w b th ch ea fa sv tn po en ln kn wr dg fv fb fs fp fh ft fl fi) : w (b + 9) = zI g 69 wdF := h.2.2.2.2.2.2.2.2.2.2.1
theorem Mx.r10 (h : Mx g w b th ch ea fa sv tn po en ln kn wr dg fv fb fs fp fh ft fl fi) : w (b + 10) = zI g 12 waF := h.2.2.2.2.2.2.2.2.2.2.2
theorem Mx.fr {w1 : zW} {lo hi : Nat} (h : Mx g w b th ch ea fa sv tn po en ln kn wr dg fv fb fs fp fh ft fl fi) (hf : zFr w w1 lo hi) (hd : b + 10 < lo ∨ hi ≤ b) : Mx g w1 b th ch ea fa sv tn po en ln kn wr dg fv fb fs fp fh ft fl fi := by
  obtain ⟨hb, hce, h1, h2, h3, h4, h5, h6, h7, h8, h9, h10⟩ := h
  exact ⟨hb, (hf _ (by omega)).trans hce, (hf _ (by omega)).trans h1, (hf _ (by omega)).trans h2, (hf _ (by omega)).trans h3, (hf _ (by omega)).trans h4, (hf _ (by omega)).trans h5, (hf _ (by omega)).trans h6, (hf _ (by omega)).trans h7, (hf _ (by omega)).trans h8, (hf _ (by omega)).trans h9, (hf _ (by omega)).trans h10⟩
theorem Mx.setC {w1 : zW} {th2 ch2 ea2 fa2 sv2 tn2 po2 en2 ln2 kn2 wr2 dg2 : Int32} (h : Mx g w b th ch ea fa sv tn po en ln kn wr dg fv fb fs fp fh ft fl fi) (hf : zFr w w1 b (b + 1)) (hn : w1 b = zO 12 [.int th2, .int ch2, .int ea2, .int fa2, .int sv2, .ref (za g (b + 1)), .ref (za g (b + 2)), .ref (za g (b + 3)), .ref (za g (b + 4)), .ref (za g (b + 5)), .ref (za g (b + 6)), .ref (za g (b + 7)), .ref (za g (b + 8)), .ref (za g (b + 9)), .ref (za g (b + 10)), .int tn2, .int po2, .int en2, .int ln2, .int kn2, .int wr2, .int dg2]) : Mx g w1 b th2 ch2 ea2 fa2 sv2 tn2 po2 en2 ln2 kn2 wr2 dg2 fv fb fs fp fh ft fl fi := by
  obtain ⟨hb, hce, h1, h2, h3, h4, h5, h6, h7, h8, h9, h10⟩ := h
  exact ⟨hb, hn, (hf _ (by omega)).trans h1, (hf _ (by omega)).trans h2, (hf _ (by omega)).trans h3, (hf _ (by omega)).trans h4, (hf _ (by omega)).trans h5, (hf _ (by omega)).trans h6, (hf _ (by omega)).trans h7, (hf _ (by omega)).trans h8, (hf _ (by omega)).trans h9, (hf _ (by omega)).trans h10⟩
theorem Mx.setV {w1 : zW} {f2 : Nat → Int32} (h : Mx g w b th ch ea fa sv tn po en ln kn wr dg fv fb fs fp fh ft fl fi) (hf : zFr w w1 (b + 1) (b + 1 + 1)) (hn : w1 (b + 1) = zI g 410 f2) : Mx g w1 b th ch ea fa sv tn po en ln kn wr dg f2 fb fs fp fh ft fl fi := by
  obtain ⟨hb, hce, h1, h2, h3, h4, h5, h6, h7, h8, h9, h10⟩ := h
  exact ⟨hb, (hf _ (by omega)).trans hce, hn, (hf _ (by omega)).trans h2, (hf _ (by omega)).trans h3, (hf _ (by omega)).trans h4, (hf _ (by omega)).trans h5, (hf _ (by omega)).trans h6, (hf _ (by omega)).trans h7, (hf _ (by omega)).trans h8, (hf _ (by omega)).trans h9, (hf _ (by omega)).trans h10⟩
theorem Mx.setB {w1 : zW} {f2 : Nat → Int32} (h : Mx g w b th ch ea fa sv tn po en ln kn wr dg fv fb fs fp fh ft fl fi) (hf : zFr w w1 (b + 2) (b + 2 + 1)) (hn : w1 (b + 2) = zI g 410 f2) : Mx g w1 b th ch ea fa sv tn po en ln kn wr dg fv f2 fs fp fh ft fl fi := by
  obtain ⟨hb, hce, h1, h2, h3, h4, h5, h6, h7, h8, h9, h10⟩ := h
  exact ⟨hb, (hf _ (by omega)).trans hce, (hf _ (by omega)).trans h1, hn, (hf _ (by omega)).trans h3, (hf _ (by omega)).trans h4, (hf _ (by omega)).trans h5, (hf _ (by omega)).trans h6, (hf _ (by omega)).trans h7, (hf _ (by omega)).trans h8, (hf _ (by omega)).trans h9, (hf _ (by omega)).trans h10⟩
theorem Mx.setS {w1 : zW} {f2 : Nat → Int32} (h : Mx g w b th ch ea fa sv tn po en ln kn wr dg fv fb fs fp fh ft fl fi) (hf : zFr w w1 (b + 3) (b + 3 + 1)) (hn : w1 (b + 3) = zI g 410 f2) : Mx g w1 b th ch ea fa sv tn po en ln kn wr dg fv fb f2 fp fh ft fl fi := by
  obtain ⟨hb, hce, h1, h2, h3, h4, h5, h6, h7, h8, h9, h10⟩ := h
  exact ⟨hb, (hf _ (by omega)).trans hce, (hf _ (by omega)).trans h1, (hf _ (by omega)).trans h2, hn, (hf _ (by omega)).trans h4, (hf _ (by omega)).trans h5, (hf _ (by omega)).trans h6, (hf _ (by omega)).trans h7, (hf _ (by omega)).trans h8, (hf _ (by omega)).trans h9, (hf _ (by omega)).trans h10⟩
theorem Mx.setP {w1 : zW} {f2 : Nat → Int32} (h : Mx g w b th ch ea fa sv tn po en ln kn wr dg fv fb fs fp fh ft fl fi) (hf : zFr w w1 (b + 4) (b + 4 + 1)) (hn : w1 (b + 4) = zI g 3280 f2) : Mx g w1 b th ch ea fa sv tn po en ln kn wr dg fv fb fs f2 fh ft fl fi := by
  obtain ⟨hb, hce, h1, h2, h3, h4, h5, h6, h7, h8, h9, h10⟩ := h
  exact ⟨hb, (hf _ (by omega)).trans hce, (hf _ (by omega)).trans h1, (hf _ (by omega)).trans h2, (hf _ (by omega)).trans h3, hn, (hf _ (by omega)).trans h5, (hf _ (by omega)).trans h6, (hf _ (by omega)).trans h7, (hf _ (by omega)).trans h8, (hf _ (by omega)).trans h9, (hf _ (by omega)).trans h10⟩
theorem Mx.setH {w1 : zW} {f2 : Nat → Int32} (h : Mx g w b th ch ea fa sv tn po en ln kn wr dg fv fb fs fp fh ft fl fi) (hf : zFr w w1 (b + 5) (b + 5 + 1)) (hn : w1 (b + 5) = zI g 200 f2) : Mx g w1 b th ch ea fa sv tn po en ln kn wr dg fv fb fs fp f2 ft fl fi := by
  obtain ⟨hb, hce, h1, h2, h3, h4, h5, h6, h7, h8, h9, h10⟩ := h
  exact ⟨hb, (hf _ (by omega)).trans hce, (hf _ (by omega)).trans h1, (hf _ (by omega)).trans h2, (hf _ (by omega)).trans h3, (hf _ (by omega)).trans h4, hn, (hf _ (by omega)).trans h6, (hf _ (by omega)).trans h7, (hf _ (by omega)).trans h8, (hf _ (by omega)).trans h9, (hf _ (by omega)).trans h10⟩
theorem Mx.setT {w1 : zW} {f2 : Nat → Int32} (h : Mx g w b th ch ea fa sv tn po en ln kn wr dg fv fb fs fp fh ft fl fi) (hf : zFr w w1 (b + 6) (b + 6 + 1)) (hn : w1 (b + 6) = zI g 60 f2) : Mx g w1 b th ch ea fa sv tn po en ln kn wr dg fv fb fs fp fh f2 fl fi := by
  obtain ⟨hb, hce, h1, h2, h3, h4, h5, h6, h7, h8, h9, h10⟩ := h
  exact ⟨hb, (hf _ (by omega)).trans hce, (hf _ (by omega)).trans h1, (hf _ (by omega)).trans h2, (hf _ (by omega)).trans h3, (hf _ (by omega)).trans h4, (hf _ (by omega)).trans h5, hn, (hf _ (by omega)).trans h7, (hf _ (by omega)).trans h8, (hf _ (by omega)).trans h9, (hf _ (by omega)).trans h10⟩
theorem Mx.setL {w1 : zW} {f2 : Nat → Int32} (h : Mx g w b th ch ea fa sv tn po en ln kn wr dg fv fb fs fp fh ft fl fi) (hf : zFr w w1 (b + 7) (b + 7 + 1)) (hn : w1 (b + 7) = zI g 1200 f2) : Mx g w1 b th ch ea fa sv tn po en ln kn wr dg fv fb fs fp fh ft f2 fi := by
  obtain ⟨hb, hce, h1, h2, h3, h4, h5, h6, h7, h8, h9, h10⟩ := h
  exact ⟨hb, (hf _ (by omega)).trans hce, (hf _ (by omega)).trans h1, (hf _ (by omega)).trans h2, (hf _ (by omega)).trans h3, (hf _ (by omega)).trans h4, (hf _ (by omega)).trans h5, (hf _ (by omega)).trans h6, hn, (hf _ (by omega)).trans h8, (hf _ (by omega)).trans h9, (hf _ (by omega)).trans h10⟩
theorem Mx.setI {w1 : zW} {f2 : Nat → Int32} (h : Mx g w b th ch ea fa sv tn po en ln kn wr dg fv fb fs fp fh ft fl fi) (hf : zFr w w1 (b + 8) (b + 8 + 1)) (hn : w1 (b + 8) = zI g 11 f2) : Mx g w1 b th ch ea fa sv tn po en ln kn wr dg fv fb fs fp fh ft fl f2 := by
  obtain ⟨hb, hce, h1, h2, h3, h4, h5, h6, h7, h8, h9, h10⟩ := h
  exact ⟨hb, (hf _ (by omega)).trans hce, (hf _ (by omega)).trans h1, (hf _ (by omega)).trans h2, (hf _ (by omega)).trans h3, (hf _ (by omega)).trans h4, (hf _ (by omega)).trans h5, (hf _ (by omega)).trans h6, (hf _ (by omega)).trans h7, hn, (hf _ (by omega)).trans h9, (hf _ (by omega)).trans h10⟩
end MX
/-- a state in one row of numbers -/
def VS (f : Nat → Int32) (S : zSt) : Prop := (f 0 = nI S.1.length ∧ f 1 = nI S.2.1.length ∧ f 2 = nI S.2.2.1.length ∧ f 3 = nI S.2.2.2) ∧ (∀ k, k < 200 → f (4 + k) = nI (gT S.1 k)) ∧ (∀ m, m < S.2.1.length → f (204 + m) = nI (S.2.1.getD m 0)) ∧ (∀ k, k < S.2.2.1.length → f (210 + k) = nI (gT S.2.2.1 k)) ∧ (S.1.length ≤ 200 ∧ S.2.2.1.length ≤ 200 ∧ Mo S.2.1 S.1.length) ∧ (∀ k, gT S.1 k ≤ 9) ∧ ∀ k, gT S.2.2.1 k ≤ 9
theorem VS.congr {f f' : Nat → Int32} {S : zSt} (h : VS f S) (e : ∀ k, k < 410 → f' k = f k) : VS f' S := by
  obtain ⟨⟨a1, a2, a3, a4⟩, a5, a6, a7, a8, a9⟩ := h
  have hm := a8.2.2.2.2
  exact ⟨⟨(e 0 (by omega)).trans a1, (e 1 (by omega)).trans a2, (e 2 (by omega)).trans a3, (e 3 (by omega)).trans a4⟩, fun k hk => (e _ (by omega)).trans (a5 k hk), fun m h9 => (e _ (by omega)).trans (a6 m h9), fun k hk => (e _ (by omega)).trans (a7 k hk), a8, a9⟩
section VSX
variable {f : Nat → Int32} {S : zSt}
theorem VS.dur (h : VS f S) : f 0 = nI S.1.length := h.1.1
theorem VS.mks (h : VS f S) : f 1 = nI S.2.1.length := h.1.2.1
theorem VS.cls (h : VS f S) : f 2 = nI S.2.2.1.length := h.1.2.2.1
theorem VS.trs (h : VS f S) : f 3 = nI S.2.2.2 := h.1.2.2.2
theorem VS.tick (h : VS f S) {k : Nat} (hk : k < 200) : f (4 + k) = nI (gT S.1 k) := h.2.1 k hk
theorem VS.mark (h : VS f S) {m : Nat} (hm : m < S.2.1.length) : f (204 + m) = nI (S.2.1.getD m 0) := h.2.2.1 m hm
theorem VS.clip (h : VS f S) {k : Nat} (hk : k < S.2.2.1.length) : f (210 + k) = nI (gT S.2.2.1 k) := h.2.2.2.1 k hk
theorem VS.len (h : VS f S) : S.1.length ≤ 200 ∧ S.2.2.1.length ≤ 200 ∧ S.2.1.length ≤ 6 := ⟨h.2.2.2.2.1.1, h.2.2.2.2.1.2.1, h.2.2.2.2.1.2.2.2.2⟩
theorem VS.mo (h : VS f S) : Mo S.2.1 S.1.length := h.2.2.2.2.1.2.2
theorem VS.le (h : VS f S) (k : Nat) : gT S.1 k ≤ 9 := h.2.2.2.2.2.1 k
theorem VS.cle (h : VS f S) (k : Nat) : gT S.2.2.1 k ≤ 9 := h.2.2.2.2.2.2 k
theorem gT_out {T : List Nat} {k : Nat} (h : T.length ≤ k) : gT T k = 0 := gD_ge h
theorem gT_ltab {N k : Nat} {F : Nat → Nat} : gT (ltab N F) k = if k < N then F k else 0 := by
  split
  · rename_i h; exact gT_tab h
  · rename_i h; exact gT_out (by rw [ltab_len]; omega)
/-- new ticks and markers -/
theorem VS.mkT {f' : Nat → Int32} {N tr : Nat} {F : Nat → Nat} {L : List Nat} (h : VS f S) (e0 : f' 0 = nI N) (e1 : f' 1 = nI L.length) (e2 : f' 2 = f 2) (e3 : f' 3 = nI tr) (et : ∀ k, k < 200 → f' (4 + k) = nI (if k < N then F k else 0)) (em : ∀ m, m < L.length → f' (204 + m) = nI (L.getD m 0)) (ec : ∀ k, k < S.2.2.1.length → f' (210 + k) = f (210 + k)) (hN : N ≤ 200) (hm : Mo L N) (h9 : ∀ k, k < N → F k ≤ 9) : VS f' (ltab N F, L, S.2.2.1, tr) := by
  have hl := h.len
  refine ⟨⟨by rw [ltab_len]; exact e0, e1, e2.trans h.cls, e3⟩, fun k hk => by rw [et k hk, gT_ltab], em, fun k hk => (ec k hk).trans (h.clip hk), ⟨by rw [ltab_len]; exact hN, hl.2.1, by rw [ltab_len]; exact hm⟩, fun k => ?_, h.cle⟩
  show gT (ltab N F) k ≤ 9
  rw [gT_ltab]
  split
  · rename_i q; exact h9 k q
  · omega
/-- .. new markers alone -/
theorem VS.mkM {f' : Nat → Int32} {L : List Nat} (h : VS f S) (e0 : f' 0 = f 0) (e1 : f' 1 = nI L.length) (e2 : f' 2 = f 2) (e3 : f' 3 = f 3) (et : ∀ k, k < 200 → f' (4 + k) = f (4 + k)) (em : ∀ m, m < L.length → f' (204 + m) = nI (L.getD m 0)) (ec : ∀ k, k < S.2.2.1.length → f' (210 + k) = f (210 + k)) (hm : Mo L S.1.length) : VS f' (S.1, L, S.2.2) := by
  have hl := h.len
  exact ⟨⟨e0.trans h.dur, e1, e2.trans h.cls, e3.trans h.trs⟩, fun k hk => (et k hk).trans (h.tick hk), em, fun k hk => (ec k hk).trans (h.clip hk), ⟨hl.1, hl.2.1, hm⟩, h.le, h.cle⟩
/-- .. a new clipboard -/
theorem VS.mkC {f' : Nat → Int32} {N : Nat} {F : Nat → Nat} (h : VS f S) (e2 : f' 2 = nI N) (e : ∀ k, k < 210 → k ≠ 2 → f' k = f k) (ec : ∀ k, k < N → f' (210 + k) = nI (F k)) (hN : N ≤ 200) (h9 : ∀ k, k < N → F k ≤ 9) : VS f' (S.1, S.2.1, ltab N F, S.2.2.2) := by
  have hl := h.len
  refine ⟨⟨(e 0 (by omega) (by omega)).trans h.dur, (e 1 (by omega) (by omega)).trans h.mks, by show f' 2 = nI (ltab N F).length; rw [ltab_len]; exact e2, (e 3 (by omega) (by omega)).trans h.trs⟩, fun k hk => (e _ (by omega) (by omega)).trans (h.tick hk), fun m hm => (e _ (by have : m < S.2.1.length := hm; omega) (by omega)).trans (h.mark hm), fun k hk => ?_, ⟨hl.1, by show (ltab N F).length ≤ 200; rw [ltab_len]; exact hN, h.mo⟩, h.le, fun k => ?_⟩
  · have hk2 : k < N := by have : k < (ltab N F).length := hk; rwa [ltab_len] at this
    rw [ec k hk2]; show _ = nI (gT (ltab N F) k); rw [gT_ltab, if_pos hk2]
  · show gT (ltab N F) k ≤ 9
    rw [gT_ltab]
    split
    · rename_i q; exact h9 k q
    · omega
end VSX
set_option maxRecDepth 100000 in
set_option maxHeartbeats 4000000 in
theorem c_X13_thrown {g : zGT} {w : zW} {b : Nat} {th ch ea fa sv tn po en ln kn wr dg : Int32} {fv fb fs fp fh ft fl fi : Nat → Int32} (h0 : zG0 g) (h : Mx g w b th ch ea fa sv tn po en ln kn wr dg fv fb fs fp fh ft fl fi) : zCt g mX13_thrown (zR 0 0) [.ref (za g b)] w (fun o w' => o = .inl (some (.int th)) ∧ w' = w) := by
  have hb := h.1
  refine zCt_of (by decide +kernel) h0 [(0, .ref (za g b))] rfl (Nat.le_of_ble_eq_true rfl) ?_
  refine z_aload_n dX13_thrown_0 rfl ?_
  refine z_getf (j := b) dX13_thrown_1 kF_RX13_47 rfl (by omega) h.ce rfl ?_
  refine z_iret dX13_thrown_4 rfl (by decide) (by decide) ?_
  exact ⟨rfl, rfl⟩
set_option maxRecDepth 100000 in
set_option maxHeartbeats 4000000 in
theorem c_X13_fail {g : zGT} {w : zW} {b : Nat} {th ch ea fa sv tn po en ln kn wr dg : Int32} {fv fb fs fp fh ft fl fi : Nat → Int32} {x : Int32} (h0 : zG0 g) (h : Mx g w b th ch ea fa sv tn po en ln kn wr dg fv fb fs fp fh ft fl fi) : zCt g mX13_fail (zR 0 0) [.ref (za g b), .int (x)] w (fun o w' => o = .inl (some (.int (nI 0))) ∧ zFr w w' b (b + 11) ∧ Mx g w' b x ch ea fa sv tn po en ln kn wr dg fv fb fs fp fh ft fl fi) := by
  have hb := h.1
  refine zCt_of (by decide +kernel) h0 [(0, .ref (za g b)), (1, .int (x))] rfl (Nat.le_of_ble_eq_true rfl) ?_
  refine z_aload_n dX13_fail_0 rfl ?_
  refine z_iload_n dX13_fail_1 rfl ?_
  refine z_putf (j := b) dX13_fail_2 kF_RX13_47 zt_12_0 rfl (by omega) h.ce rfl rfl (Nat.le_of_ble_eq_true rfl) ?_
  obtain ⟨w1, ew2⟩ : ∃ wz : zW, wz = va_up w (b) (zO 12 [.int (x), .int (ch), .int (ea), .int (fa), .int (sv), .ref (za g (b + 1)), .ref (za g (b + 2)), .ref (za g (b + 3)), .ref (za g (b + 4)), .ref (za g (b + 5)), .ref (za g (b + 6)), .ref (za g (b + 7)), .ref (za g (b + 8)), .ref (za g (b + 9)), .ref (za g (b + 10)), .int (tn), .int (po), .int (en), .int (ln), .int (kn), .int (wr), .int (dg)]) := ⟨_, rfl⟩
  refine z_weq (w' := w1) ew2.symm ?_
  have hf3 : zFr w w1 (b) (b + 1) := by rw [ew2]; exact zFr.up (by omega)
  have hw4 : w1 (b) = zO 12 [.int (x), .int (ch), .int (ea), .int (fa), .int (sv), .ref (za g (b + 1)), .ref (za g (b + 2)), .ref (za g (b + 3)), .ref (za g (b + 4)), .ref (za g (b + 5)), .ref (za g (b + 6)), .ref (za g (b + 7)), .ref (za g (b + 8)), .ref (za g (b + 9)), .ref (za g (b + 10)), .int (tn), .int (po), .int (en), .int (ln), .int (kn), .int (wr), .int (dg)] := by rw [ew2, zup_s]
  have hx5 := h.setC hf3 hw4
  refine z_iconst (v := nI 0) dX13_fail_5 rfl ?_
  refine z_iret dX13_fail_6 rfl (by decide) (by decide) ?_
  exact ⟨rfl, (hf3.wk (by omega) (by omega)), hx5⟩
set_option maxRecDepth 100000 in
set_option maxHeartbeats 4000000 in
theorem c_X13_isIn_y {g : zGT} {w : zW} {x y z : Int32} (h0 : zG0 g) (e : y.toInt ≤ x.toInt ∧ x.toInt ≤ z.toInt) : zCt g mX13_isIn (zR 0 0) [.int (x), .int (y), .int (z)] w (fun o w' => o = .inl (some (.int (nI 1))) ∧ w' = w) := by
  refine zCt_of (by decide +kernel) h0 [(0, .int (x)), (1, .int (y)), (2, .int (z))] rfl (Nat.le_of_ble_eq_true rfl) ?_
  refine z_iload_n dX13_isIn_0 rfl ?_
  refine z_iload_n dX13_isIn_1 rfl ?_
  refine z_icmp_lt_z (tgt := 14) dX13_isIn_2 (by decide) (fun h_2_1 => ?_) (fun h_2_1 => ?_)
  · refine z_iconst (v := nI 0) dX13_isIn_14 rfl ?_
    refine z_zret (ty := .boolean) dX13_isIn_15 rfl (by decide) (by decide) rfl ?_
    first | exact ⟨rfl, rfl⟩ | (exfalso; omega)
  · refine z_iload_n dX13_isIn_5 rfl ?_
    refine z_iload_n dX13_isIn_6 rfl ?_
    refine z_icmp_gt_z (tgt := 14) dX13_isIn_7 (by decide) (fun h_7_2 => ?_) (fun h_7_2 => ?_)
    · refine z_iconst (v := nI 0) dX13_isIn_14 rfl ?_
      refine z_zret (ty := .boolean) dX13_isIn_15 rfl (by decide) (by decide) rfl ?_
      first | exact ⟨rfl, rfl⟩ | (exfalso; omega)
    · refine z_iconst (v := nI 1) dX13_isIn_10 rfl ?_
      refine z_goto (tgt := 15) dX13_isIn_11 (by decide) ?_
      refine z_zret (ty := .boolean) dX13_isIn_15 rfl (by decide) (by decide) rfl ?_
      first | exact ⟨rfl, rfl⟩ | (exfalso; omega)
set_option maxRecDepth 100000 in
set_option maxHeartbeats 4000000 in
theorem c_X13_isIn_n {g : zGT} {w : zW} {x y z : Int32} (h0 : zG0 g) (e : ¬ (y.toInt ≤ x.toInt ∧ x.toInt ≤ z.toInt)) : zCt g mX13_isIn (zR 0 0) [.int (x), .int (y), .int (z)] w (fun o w' => o = .inl (some (.int (nI 0))) ∧ w' = w) := by
  refine zCt_of (by decide +kernel) h0 [(0, .int (x)), (1, .int (y)), (2, .int (z))] rfl (Nat.le_of_ble_eq_true rfl) ?_
  refine z_iload_n dX13_isIn_0 rfl ?_
  refine z_iload_n dX13_isIn_1 rfl ?_
  refine z_icmp_lt_z (tgt := 14) dX13_isIn_2 (by decide) (fun h_2_1 => ?_) (fun h_2_1 => ?_)
  · refine z_iconst (v := nI 0) dX13_isIn_14 rfl ?_
    refine z_zret (ty := .boolean) dX13_isIn_15 rfl (by decide) (by decide) rfl ?_
    first | exact ⟨rfl, rfl⟩ | (exfalso; omega)
  · refine z_iload_n dX13_isIn_5 rfl ?_
    refine z_iload_n dX13_isIn_6 rfl ?_
    refine z_icmp_gt_z (tgt := 14) dX13_isIn_7 (by decide) (fun h_7_2 => ?_) (fun h_7_2 => ?_)
    · refine z_iconst (v := nI 0) dX13_isIn_14 rfl ?_
      refine z_zret (ty := .boolean) dX13_isIn_15 rfl (by decide) (by decide) rfl ?_
      first | exact ⟨rfl, rfl⟩ | (exfalso; omega)
    · refine z_iconst (v := nI 1) dX13_isIn_10 rfl ?_
      refine z_goto (tgt := 15) dX13_isIn_11 (by decide) ?_
      refine z_zret (ty := .boolean) dX13_isIn_15 rfl (by decide) (by decide) rfl ?_
      first | exact ⟨rfl, rfl⟩ | (exfalso; omega)
set_option maxRecDepth 100000 in
set_option maxHeartbeats 4000000 in
theorem c_X13_lays {g : zGT} {w : zW} {p q : Nat} {f1 f2 : Nat → Int32} (h0 : zG0 g) (hp : p < zn g) (hq : q < zn g) (hpq : p ≠ q) (hwp0 : w p = zI g 410 f1) (hwq : w q = zI g 410 f2) : zCt g mX13_lays (zR 0 0) [.ref (za g p), .ref (za g q)] w (fun o w' => o = .inl none ∧ zFr w w' p (p + 1) ∧ ∃ f', w' p = zI g 410 f' ∧ ∀ k, k < 410 → f' k = f2 k) := by
  have hpq2 : q < p ∨ p + 1 ≤ q := by omega
  refine zCt_of (by decide +kernel) h0 [(0, .ref (za g p)), (1, .ref (za g q))] rfl (Nat.le_of_ble_eq_true rfl) ?_
  have loop : ∀ (mm : Nat) (i : Nat) (wi : zW) (f9 : Nat → Int32), 411 - i < mm → (i ≤ 410) → (zFr w wi p (p + 1)) → (wi p = zI g 410 f9) → (∀ k, k < i → f9 k = f2 k) → zTr g mX13_lays (zR 0 0) 0 0 2 [(0, .ref (za g p)), (1, .ref (za g q)), (2, .int (nI (i)))] [] wi (fun o w' => o = .inl none ∧ zFr w w' p (p + 1) ∧ ∃ f', w' p = zI g 410 f' ∧ ∀ k, k < 410 → f' k = f2 k) := by
    intro mm
    induction mm with
    | zero => intros; omega
    | succ mm ih =>
      intro i wi f9 hm hi410 hfi hwp hi
      refine z_iload_n dX13_lays_2 rfl ?_
      refine z_sipush (v := nI 410) dX13_lays_3 rfl ?_
      refine z_icmp_ge_n (a := i) (b := 410) (tgt := 21) dX13_lays_6 (by decide) (by omega) (by omega) (fun h_6_1 => ?_) (fun h_6_1 => ?_)
      · refine z_vret dX13_lays_21 rfl (by decide) (by decide) ?_
        exact ⟨rfl, hfi, _, hwp, fun k hk => hi k (by omega)⟩
      · refine z_aload_n dX13_lays_9 rfl ?_
        refine z_iload_n dX13_lays_10 rfl ?_
        refine z_aload_n dX13_lays_11 rfl ?_
        refine z_iload_n dX13_lays_12 rfl ?_
        refine z_iald_n (j := q) (N := 410) (a := i) (f := f2) dX13_lays_13 hq ((hfi q hpq2).trans hwq) (by omega) (by omega) ?_
        refine z_iast_n (j := p) (N := 410) (a := i) (f := f9) dX13_lays_14 hp hwp (by omega) (by omega) ?_
        obtain ⟨w2, ew3⟩ : ∃ wz : zW, wz = va_up wi (p) (zI g 410 (upd (f9) (i) (((f2) (i))))) := ⟨_, rfl⟩
        refine z_weq (w' := w2) ew3.symm ?_
        have hf1 : zFr wi w2 p (p + 1) := by rw [ew3]; exact zFr.up (by omega)
        have hn1 : w2 p = zI g 410 (upd (f9) (i) (((f2) (i)))) := by rw [ew3, zup_s]
        refine z_iinc_n (n := 1) (a := i) (lv' := [(0, .ref (za g p)), (1, .ref (za g q)), (2, .int (nI (i + 1)))]) dX13_lays_15 rfl (by decide) rfl ?_
        refine z_goto (tgt := 2) dX13_lays_18 (by decide) ?_
        refine ih (i + 1) _ _ (by omega) (by omega) (hfi.tr hf1) hn1 (fun k hk => ?_)
        simp only [upd]
        by_cases c : k = i
        · rw [if_pos c, c]
        · rw [if_neg c]; exact hi k (by omega)
  refine z_iconst (v := nI 0) dX13_lays_0 rfl ?_
  refine z_istore_n (lv' := [(0, .ref (za g p)), (1, .ref (za g q)), (2, .int (nI (0)))]) dX13_lays_1 (by decide) rfl ?_
  exact loop 412 0 w f1 (by omega) (Nat.zero_le _) zFr.rf hwp0 (fun k hk => absurd hk (Nat.not_lt_zero k))
set_option maxRecDepth 100000 in
set_option maxHeartbeats 4000000 in
theorem c_X13_begins {g : zGT} {w : zW} {b : Nat} {th ch ea fa sv tn po en ln kn wr dg : Int32} {fv fb fs fp fh ft fl fi : Nat → Int32} (h0 : zG0 g) (h : Mx g w b th ch ea fa sv tn po en ln kn wr dg fv fb fs fp fh ft fl fi) : zCt g mX13_begins (zR 1 0) [.ref (za g b)] w (fun o w' => o = .inl none ∧ zFr w w' b (b + 11) ∧ ∃ f', Mx g w' b (nI 0) ch ea fa sv tn po en ln kn wr dg fv (f') fs fp fh ft fl fi ∧ ∀ k, k < 410 → f' k = fv k) := by
  have hb := h.1
  refine zCt_of (by decide +kernel) h0 [(0, .ref (za g b))] rfl (Nat.le_of_ble_eq_true rfl) ?_
  refine z_aload_n dX13_begins_0 rfl ?_
  refine z_iconst (v := nI 0) dX13_begins_1 rfl ?_
  refine z_putf (j := b) dX13_begins_2 kF_RX13_47 zt_12_0 rfl (by omega) h.ce rfl rfl (Nat.le_of_ble_eq_true rfl) ?_
  obtain ⟨w1, ew2⟩ : ∃ wz : zW, wz = va_up w (b) (zO 12 [.int (nI (0)), .int (ch), .int (ea), .int (fa), .int (sv), .ref (za g (b + 1)), .ref (za g (b + 2)), .ref (za g (b + 3)), .ref (za g (b + 4)), .ref (za g (b + 5)), .ref (za g (b + 6)), .ref (za g (b + 7)), .ref (za g (b + 8)), .ref (za g (b + 9)), .ref (za g (b + 10)), .int (tn), .int (po), .int (en), .int (ln), .int (kn), .int (wr), .int (dg)]) := ⟨_, rfl⟩
  refine z_weq (w' := w1) ew2.symm ?_
  have hf3 : zFr w w1 (b) (b + 1) := by rw [ew2]; exact zFr.up (by omega)
  have hw4 : w1 (b) = zO 12 [.int (nI (0)), .int (ch), .int (ea), .int (fa), .int (sv), .ref (za g (b + 1)), .ref (za g (b + 2)), .ref (za g (b + 3)), .ref (za g (b + 4)), .ref (za g (b + 5)), .ref (za g (b + 6)), .ref (za g (b + 7)), .ref (za g (b + 8)), .ref (za g (b + 9)), .ref (za g (b + 10)), .int (tn), .int (po), .int (en), .int (ln), .int (kn), .int (wr), .int (dg)] := by rw [ew2, zup_s]
  have hx5 := h.setC hf3 hw4
  refine z_aload_n dX13_begins_5 rfl ?_
  refine z_getf (j := b) dX13_begins_6 kF_RX13_20 rfl (by omega) hx5.ce rfl ?_
  refine z_aload_n dX13_begins_9 rfl ?_
  refine z_getf (j := b) dX13_begins_10 kF_RX13_16 rfl (by omega) hx5.ce rfl ?_
  refine z_callSR (As := [.ref (za g (b + 2)), .ref (za g (b + 1))]) (rest := []) (v := none) (R2 := zR 0 0) dX13_begins_13 kS_RX13_50 rfl rfl ⟨⟨by decide, by decide⟩, by decide, by decide⟩ rfl (Nat.le_of_ble_eq_true rfl) rfl (c_X13_lays h0 (by omega) (by omega) (by omega) hx5.r2 hx5.r1) (fun w6 pw6 => ?_)
  obtain ⟨hf7, g8, hr9, he10⟩ := pw6
  have hx11 := hx5.setB hf7 hr9
  refine z_vret dX13_begins_16 rfl (by decide) (by decide) ?_
  exact ⟨rfl, ((hf3.wk (by omega) (by omega)).tr (hf7.wk (by omega) (by omega))), _, hx11, he10⟩
def PS (f : Nat → Int32) (Hs : List zSt) : Prop := Hs.length ≤ 8 ∧ ∀ i, i < Hs.length → VS (fun k => f ((Hs.length - 1 - i) * 410 + k)) (Hs.getD i zs0)
theorem PS.congr {f f' : Nat → Int32} {Hs : List zSt} (h : PS f Hs) (e : ∀ k, k < Hs.length * 410 → f' k = f k) : PS f' Hs := ⟨h.1, fun i hi => (h.2 i hi).congr (fun k hk => e _ (by
  have h2 : (Hs.length - 1 - i) * 410 + k < Hs.length * 410 := by omega
  exact h2))⟩
/-- a state more -/
theorem PS.push {f f' : Nat → Int32} {Hs : List zSt} {S : zSt} (h : PS f Hs) (h8 : Hs.length < 8) (e : ∀ k, k < Hs.length * 410 → f' k = f k) (hS : VS (fun k => f' (Hs.length * 410 + k)) S) : PS f' (S :: Hs) := by
  refine ⟨by simp only [List.length_cons]; omega, fun i hi => ?_⟩
  cases i with
  | zero => simp only [List.length_cons, Nat.sub_zero, Nat.add_sub_cancel]; exact hS
  | succ i =>
    have hi2 : i < Hs.length := by simpa using hi
    have := (h.congr e).2 i hi2
    simp only [List.length_cons, List.getD_cons_succ]
    rw [show Hs.length + 1 - 1 - (i + 1) = Hs.length - 1 - i by omega]
    exact this
set_option maxRecDepth 100000 in
/-- the oldest is forgotten -/
theorem PS.drop {f f' : Nat → Int32} {Hs : List zSt} (h : PS f Hs) (h8 : Hs.length = 8) (e : ∀ k, k < 2870 → f' k = f (k + 410)) : PS f' (Hs.take 7) := by
  have hl : (Hs.take 7).length = 7 := by rw [List.length_take]; omega
  refine ⟨by omega, fun i hi => ?_⟩
  rw [hl] at hi ⊢
  have := h.2 i (by omega)
  rw [List.getD_eq_getElem?_getD, List.getElem?_take_of_lt (by omega), ← List.getD_eq_getElem?_getD]
  refine this.congr (fun k hk => ?_)
  (try dsimp only)
  rw [e _ (by omega)]
  congr 1; omega
theorem PS.tail {f : Nat → Int32} {Hs : List zSt} {S : zSt} (h : PS f (S :: Hs)) : PS f Hs := by
  refine ⟨by have := h.1; simp only [List.length_cons] at this; omega, fun i hi => ?_⟩
  have := h.2 (i + 1) (by simp only [List.length_cons]; omega)
  simp only [List.length_cons, List.getD_cons_succ] at this
  rw [show Hs.length + 1 - 1 - (i + 1) = Hs.length - 1 - i by omega] at this
  exact this
theorem PS.head {f : Nat → Int32} {Hs : List zSt} {S : zSt} (h : PS f (S :: Hs)) : VS (fun k => f (Hs.length * 410 + k)) S := by
  have := h.2 0 (by simp)
  simp only [List.length_cons, Nat.sub_zero, Nat.add_sub_cancel] at this
  exact this
theorem hk2870 {k : Nat} (h : k < 2870) : k + 410 < 3280 := by omega
set_option maxRecDepth 100000 in
set_option maxHeartbeats 4000000 in
theorem l_X13_ends {g : zGT} {w wi : zW} {b : Nat} {th ea fa sv tn po en ln kn wr dg : Int32} {fv fb fs fh ft fl fi : Nat → Int32} {x : Int32} {c9 : Nat} {fq : Nat → Int32} (h0 : zG0 g) (hb : b + 10 < zn g) (hc9 : c9 < 8) (hfi : zFr w wi b (b + 11)) (hm : Mx g wi b th (nI c9) ea fa sv tn po en ln kn wr dg fv fb fs fq fh ft fl fi) : zTr g mX13_ends (zR 1 0) 0 0 72 [(0, .ref (za g b)), (1, .int x), (2, .int (nI 0))] [] wi (fun o w' => o = .inl (some (.int x)) ∧ zFr w w' b (b + 11) ∧ ∃ fp', Mx g w' b th (nI (c9 + 1)) ea fa sv tn po en ln kn wr dg fv fb fs (fp') fh ft fl fi ∧ ∀ k, k < 3280 → fp' k = if c9 * 410 ≤ k ∧ k < c9 * 410 + 410 then fb (k - c9 * 410) else fq k) := by
  have loop : ∀ (mm : Nat) (i : Nat) (wi : zW) (f9 : Nat → Int32), 411 - i < mm → (i ≤ 410) → (zFr w wi b (b + 11)) → (Mx g wi b th (nI c9) ea fa sv tn po en ln kn wr dg fv fb fs f9 fh ft fl fi) → (∀ k, k < 3280 → f9 k = if c9 * 410 ≤ k ∧ k < c9 * 410 + i then fb (k - c9 * 410) else fq k) → zTr g mX13_ends (zR 1 0) 0 0 72 [(0, .ref (za g b)), (1, .int (x)), (2, .int (nI (i)))] [] wi (fun o w' => o = .inl (some (.int x)) ∧ zFr w w' b (b + 11) ∧ ∃ fp', Mx g w' b th (nI (c9 + 1)) ea fa sv tn po en ln kn wr dg fv fb fs (fp') fh ft fl fi ∧ ∀ k, k < 3280 → fp' k = if c9 * 410 ≤ k ∧ k < c9 * 410 + 410 then fb (k - c9 * 410) else fq k) := by
    intro mm
    induction mm with
    | zero => intros; omega
    | succ mm ih =>
      intro i wi f9 hm hi410 hfi hmi hi
      refine z_iload_n dX13_ends_72 rfl ?_
      refine z_sipush (v := nI 410) dX13_ends_73 rfl ?_
      refine z_icmp_ge_n (a := i) (b := 410) (tgt := 106) dX13_ends_76 (by decide) (by omega) (by omega) (fun h_76_1 => ?_) (fun h_76_1 => ?_)
      · refine z_aload_n dX13_ends_106 rfl ?_
        refine z_dup dX13_ends_107 rfl ?_
        refine z_getf (j := b) dX13_ends_108 kF_RX13_54 rfl (by omega) hmi.ce rfl ?_
        refine z_iconst (v := nI 1) dX13_ends_111 rfl ?_
        refine z_iadd_n (a := c9) (b := 1) dX13_ends_112 ?_
        refine z_putf (j := b) dX13_ends_113 kF_RX13_54 zt_12_1 rfl (by omega) hmi.ce rfl rfl (Nat.le_of_ble_eq_true rfl) ?_
        obtain ⟨w2, ew3⟩ : ∃ wz : zW, wz = va_up wi (b) (zO 12 [.int (th), .int (nI ((c9) + (1))), .int (ea), .int (fa), .int (sv), .ref (za g (b + 1)), .ref (za g (b + 2)), .ref (za g (b + 3)), .ref (za g (b + 4)), .ref (za g (b + 5)), .ref (za g (b + 6)), .ref (za g (b + 7)), .ref (za g (b + 8)), .ref (za g (b + 9)), .ref (za g (b + 10)), .int (tn), .int (po), .int (en), .int (ln), .int (kn), .int (wr), .int (dg)]) := ⟨_, rfl⟩
        refine z_weq (w' := w2) ew3.symm ?_
        have hf4 : zFr wi w2 (b) (b + 1) := by rw [ew3]; exact zFr.up (by omega)
        have hw5 : w2 (b) = zO 12 [.int (th), .int (nI ((c9) + (1))), .int (ea), .int (fa), .int (sv), .ref (za g (b + 1)), .ref (za g (b + 2)), .ref (za g (b + 3)), .ref (za g (b + 4)), .ref (za g (b + 5)), .ref (za g (b + 6)), .ref (za g (b + 7)), .ref (za g (b + 8)), .ref (za g (b + 9)), .ref (za g (b + 10)), .int (tn), .int (po), .int (en), .int (ln), .int (kn), .int (wr), .int (dg)] := by rw [ew3, zup_s]
        have hx6 := hmi.setC hf4 hw5
        refine z_iload_n dX13_ends_116 rfl ?_
        refine z_iret dX13_ends_117 rfl (by decide) (by decide) ?_
        refine ⟨rfl, hfi.tr (hf4.wk (by omega) (by omega)), _, hx6, fun k hk => ?_⟩
        rw [hi k hk, show i = 410 by omega]
      · refine z_aload_n dX13_ends_79 rfl ?_
        refine z_getf (j := b) dX13_ends_80 kF_RX13_26 rfl (by omega) hmi.ce rfl ?_
        refine z_aload_n dX13_ends_83 rfl ?_
        refine z_getf (j := b) dX13_ends_84 kF_RX13_54 rfl (by omega) hmi.ce rfl ?_
        refine z_sipush (v := nI 410) dX13_ends_87 rfl ?_
        refine z_imul_n (a := c9) (b := 410) dX13_ends_90 ?_
        refine z_iload_n dX13_ends_91 rfl ?_
        refine z_iadd_n (a := (c9) * (410)) (b := i) dX13_ends_92 ?_
        refine z_aload_n dX13_ends_93 rfl ?_
        refine z_getf (j := b) dX13_ends_94 kF_RX13_20 rfl (by omega) hmi.ce rfl ?_
        refine z_iload_n dX13_ends_97 rfl ?_
        refine z_iald_n (j := b + 2) (N := 410) (a := i) (f := fb) dX13_ends_98 (by omega) hmi.r2 (by omega) (by omega) ?_
        refine z_iast_n (j := b + 4) (N := 3280) (a := ((c9) * (410)) + (i)) (f := f9) dX13_ends_99 (by omega) hmi.r4 (by omega) (by omega) ?_
        obtain ⟨w7, ew8⟩ : ∃ wz : zW, wz = va_up wi (b + 4) (zI g 3280 (upd (f9) (((c9) * (410)) + (i)) (((fb) (i))))) := ⟨_, rfl⟩
        refine z_weq (w' := w7) ew8.symm ?_
        have hf9 : zFr wi w7 (b + 4) (b + 4 + 1) := by rw [ew8]; exact zFr.up (by omega)
        have hw10 : w7 (b + 4) = zI g 3280 (upd (f9) (((c9) * (410)) + (i)) (((fb) (i)))) := by rw [ew8, zup_s]
        have hx11 := hmi.setP hf9 hw10
        refine z_iinc_n (n := 1) (a := i) (lv' := [(0, .ref (za g b)), (1, .int (x)), (2, .int (nI (i + 1)))]) dX13_ends_100 rfl (by decide) rfl ?_
        refine z_goto (tgt := 72) dX13_ends_103 (by decide) ?_
        refine ih (i + 1) _ _ (by omega) (by omega) (hfi.tr (hf9.wk (by omega) (by omega))) hx11 (fun k hk => ?_)
        simp only [upd]
        by_cases c : k = c9 * 410 + i
        · rw [if_pos c, if_pos (by omega), show k - c9 * 410 = i by omega]
        · rw [if_neg c, hi k hk]
          (repeat' split) <;> first | rfl | (exfalso; omega)
  exact loop 412 0 wi fq (by omega) (Nat.zero_le _) hfi hm (fun k hk => by rw [if_neg (by omega)])
set_option maxRecDepth 100000 in
set_option maxHeartbeats 4000000 in
theorem c_X13_ends_x {g : zGT} {w : zW} {b : Nat} {th ch ea fa sv tn po en ln kn wr dg : Int32} {fv fb fs fp fh ft fl fi : Nat → Int32} {x : Int32} {t : Nat} (h0 : zG0 g) (h : Mx g w b (nI t) ch ea fa sv tn po en ln kn wr dg fv fb fs fp fh ft fl fi) (hth : t ≠ 0) (ht9 : t < 100) : zCt g mX13_ends (zR 1 0) [.ref (za g b), .int (x)] w (fun o w' => o = .inl (some (.int (nI 0))) ∧ zFr w w' b (b + 11) ∧ ∃ f', Mx g w' b (nI t) ch ea fa sv tn po en ln kn wr dg (f') fb fs fp fh ft fl fi ∧ ∀ k, k < 410 → f' k = fb k) := by
  have hb := h.1
  refine zCt_of (by decide +kernel) h0 [(0, .ref (za g b)), (1, .int (x))] rfl (Nat.le_of_ble_eq_true rfl) ?_
  refine z_aload_n dX13_ends_0 rfl ?_
  refine z_getf (j := b) dX13_ends_1 kF_RX13_47 rfl (by omega) h.ce rfl ?_
  refine z_if_eq_n (a := t) (tgt := 20) dX13_ends_4 (by decide) (by omega) (fun h_4_1 => ?_) (fun h_4_1 => ?_)
  · exact absurd h_4_1 hth
  · refine z_aload_n dX13_ends_7 rfl ?_
    refine z_getf (j := b) dX13_ends_8 kF_RX13_16 rfl (by omega) h.ce rfl ?_
    refine z_aload_n dX13_ends_11 rfl ?_
    refine z_getf (j := b) dX13_ends_12 kF_RX13_20 rfl (by omega) h.ce rfl ?_
    refine z_callSR (As := [.ref (za g (b + 1)), .ref (za g (b + 2))]) (rest := []) (v := none) (R2 := zR 0 0) dX13_ends_15 kS_RX13_50 rfl rfl ⟨⟨by decide, by decide⟩, by decide, by decide⟩ rfl (Nat.le_of_ble_eq_true rfl) rfl (c_X13_lays h0 (by omega) (by omega) (by omega) h.r1 h.r2) (fun w2 pw2 => ?_)
    obtain ⟨hf3, g4, hr5, he6⟩ := pw2
    have hx7 := h.setV hf3 hr5
    refine z_iconst (v := nI 0) dX13_ends_18 rfl ?_
    refine z_iret dX13_ends_19 rfl (by decide) (by decide) ?_
    exact ⟨rfl, (hf3.wk (by omega) (by omega)), _, hx7, he6⟩
set_option maxRecDepth 100000 in
set_option maxHeartbeats 4000000 in
theorem c_X13_ends_y {g : zGT} {w : zW} {b : Nat} {th ch ea fa sv tn po en ln kn wr dg : Int32} {fv fb fs fp fh ft fl fi : Nat → Int32} {x : Int32} {S : zSt} {Hs : List zSt} (h0 : zG0 g) (h : Mx g w b (nI 0) (nI Hs.length) ea fa sv tn po en ln kn wr dg fv fb fs fp fh ft fl fi) (hp : PS fp Hs) (hvb : VS fb S) : zCt g mX13_ends (zR 1 0) [.ref (za g b), .int (x)] w (fun o w' => o = .inl (some (.int x)) ∧ zFr w w' b (b + 11) ∧ ∃ fp', Mx g w' b (nI 0) (nI ((S :: Hs).take 8).length) ea fa sv tn po en ln kn wr dg fv fb fs (fp') fh ft fl fi ∧ PS fp' ((S :: Hs).take 8)) := by
  have hb := h.1
  have hp8 := hp.1
  refine zCt_of (by decide +kernel) h0 [(0, .ref (za g b)), (1, .int (x))] rfl (Nat.le_of_ble_eq_true rfl) ?_
  have loop31 : Hs.length = 8 → ∀ (mm : Nat) (i : Nat) (wi : zW) (f9 : Nat → Int32), 2871 - i < mm → (i ≤ 2870) → (zFr w wi b (b + 11)) → (Mx g wi b (nI 0) (nI Hs.length) ea fa sv tn po en ln kn wr dg fv fb fs f9 fh ft fl fi) → (∀ k, k < 3280 → f9 k = if k < i then fp (k + 410) else fp k) → zTr g mX13_ends (zR 1 0) 0 0 31 [(0, .ref (za g b)), (1, .int (x)), (2, .int (nI (i)))] [] wi (fun o w' => o = .inl (some (.int x)) ∧ zFr w w' b (b + 11) ∧ ∃ fp', Mx g w' b (nI 0) (nI ((S :: Hs).take 8).length) ea fa sv tn po en ln kn wr dg fv fb fs (fp') fh ft fl fi ∧ PS fp' ((S :: Hs).take 8)) := by
    intro h8
    intro mm
    induction mm with
    | zero => intros; omega
    | succ mm ih =>
      intro i wi f9 hm hi2870 hfi hmi hi
      refine z_iload_n dX13_ends_31 rfl ?_
      refine z_sipush (v := nI 2870) dX13_ends_32 rfl ?_
      refine z_icmp_ge_n (a := i) (b := 2870) (tgt := 60) dX13_ends_35 (by decide) (by omega) (by omega) (fun h_35_1 => ?_) (fun h_35_1 => ?_)
      · have hi31 : ∀ k, k < 3280 → f9 k = if k < 2870 then fp (k + 410) else fp k := fun k hk => by rw [hi k hk, show i = 2870 by omega]
        refine z_aload_n dX13_ends_60 rfl ?_
        refine z_dup dX13_ends_61 rfl ?_
        refine z_getf (j := b) dX13_ends_62 kF_RX13_54 rfl (by omega) hmi.ce rfl ?_
        refine z_iconst (v := nI 1) dX13_ends_65 rfl ?_
        refine z_isub_n (a := Hs.length) (b := 1) dX13_ends_66 (by omega) ?_
        refine z_putf (j := b) dX13_ends_67 kF_RX13_54 zt_12_1 rfl (by omega) hmi.ce rfl rfl (Nat.le_of_ble_eq_true rfl) ?_
        obtain ⟨w102, ew103⟩ : ∃ wz : zW, wz = va_up wi (b) (zO 12 [.int (nI (0)), .int (nI ((Hs.length) - (1))), .int (ea), .int (fa), .int (sv), .ref (za g (b + 1)), .ref (za g (b + 2)), .ref (za g (b + 3)), .ref (za g (b + 4)), .ref (za g (b + 5)), .ref (za g (b + 6)), .ref (za g (b + 7)), .ref (za g (b + 8)), .ref (za g (b + 9)), .ref (za g (b + 10)), .int (tn), .int (po), .int (en), .int (ln), .int (kn), .int (wr), .int (dg)]) := ⟨_, rfl⟩
        refine z_weq (w' := w102) ew103.symm ?_
        have hf104 : zFr wi w102 (b) (b + 1) := by rw [ew103]; exact zFr.up (by omega)
        have hw105 : w102 (b) = zO 12 [.int (nI (0)), .int (nI ((Hs.length) - (1))), .int (ea), .int (fa), .int (sv), .ref (za g (b + 1)), .ref (za g (b + 2)), .ref (za g (b + 3)), .ref (za g (b + 4)), .ref (za g (b + 5)), .ref (za g (b + 6)), .ref (za g (b + 7)), .ref (za g (b + 8)), .ref (za g (b + 9)), .ref (za g (b + 10)), .int (tn), .int (po), .int (en), .int (ln), .int (kn), .int (wr), .int (dg)] := by rw [ew103, zup_s]
        have hx106 := hmi.setC hf104 hw105
        refine z_iconst (v := nI 0) dX13_ends_70 rfl ?_
        refine z_istore_n (lv' := [(0, .ref (za g b)), (1, .int (x)), (2, .int (nI (0)))]) dX13_ends_71 (by decide) rfl ?_
        refine z_eq (lv' := [(0, .ref (za g b)), (1, .int (x)), (2, .int (nI (0)))]) rfl rfl rfl ?_
        refine z_post (l_X13_ends (c9 := 7) h0 hb (by omega) (hfi.tr (hf104.wk (by omega) (by omega))) (by have q9 := hx106; rw [show (Hs.length) - (1) = 7 by omega] at q9; exact q9)) (fun o w1 h9 => ?_)
        obtain ⟨e1, e2, fq, e3, e4⟩ := h9
        refine ⟨e1, e2, fq, by rw [show ((S :: Hs).take 8).length = 7 + 1 by rw [List.length_take, List.length_cons]; omega]; exact e3, ?_⟩
        have hd := hp.drop (f' := f9) h8 (fun k hk => by have q := hi31 k (by omega); rw [if_pos hk] at q; exact q)
        have hl7 : (Hs.take 7).length = 7 := by rw [List.length_take]; omega
        rw [show (S :: Hs).take 8 = S :: Hs.take 7 from rfl]
        refine hd.push (by omega) (fun k hk => ?_) (hvb.congr (fun k hk => ?_))
        · rw [hl7] at hk; rw [e4 k (by omega), if_neg (by omega)]
        · (try dsimp only); rw [hl7, e4 _ (by omega), if_pos (by omega)]; congr 1; omega
      · refine z_aload_n dX13_ends_38 rfl ?_
        refine z_getf (j := b) dX13_ends_39 kF_RX13_26 rfl (by omega) hmi.ce rfl ?_
        refine z_iload_n dX13_ends_42 rfl ?_
        refine z_aload_n dX13_ends_43 rfl ?_
        refine z_getf (j := b) dX13_ends_44 kF_RX13_26 rfl (by omega) hmi.ce rfl ?_
        refine z_iload_n dX13_ends_47 rfl ?_
        refine z_sipush (v := nI 410) dX13_ends_48 rfl ?_
        refine z_iadd_n (a := i) (b := 410) dX13_ends_51 ?_
        refine z_iald_n (j := b + 4) (N := 3280) (a := (i) + (410)) (f := f9) dX13_ends_52 (by omega) hmi.r4 (by omega) (by omega) ?_
        refine z_iast_n (j := b + 4) (N := 3280) (a := i) (f := f9) dX13_ends_53 (by omega) hmi.r4 (by omega) (by omega) ?_
        obtain ⟨w2, ew3⟩ : ∃ wz : zW, wz = va_up wi (b + 4) (zI g 3280 (upd (f9) (i) (((f9) ((i) + (410)))))) := ⟨_, rfl⟩
        refine z_weq (w' := w2) ew3.symm ?_
        have hf4 : zFr wi w2 (b + 4) (b + 4 + 1) := by rw [ew3]; exact zFr.up (by omega)
        have hw5 : w2 (b + 4) = zI g 3280 (upd (f9) (i) (((f9) ((i) + (410))))) := by rw [ew3, zup_s]
        have hx6 := hmi.setP hf4 hw5
        refine z_iinc_n (n := 1) (a := i) (lv' := [(0, .ref (za g b)), (1, .int (x)), (2, .int (nI (i + 1)))]) dX13_ends_54 rfl (by decide) rfl ?_
        refine z_goto (tgt := 31) dX13_ends_57 (by decide) ?_
        refine ih (i + 1) _ _ (by omega) (by omega) (hfi.tr (hf4.wk (by omega) (by omega))) hx6 (fun k hk => ?_)
        simp only [upd]
        by_cases c : k = i
        · rw [if_pos c, c, hi _ (by omega), if_neg (by omega), if_pos (by omega)]
        · rw [if_neg c, hi k hk]
          (repeat' split) <;> first | rfl | (exfalso; omega)
  refine z_aload_n dX13_ends_0 rfl ?_
  refine z_getf (j := b) dX13_ends_1 kF_RX13_47 rfl (by omega) h.ce rfl ?_
  refine z_if_eq_n (a := 0) (tgt := 20) dX13_ends_4 (by decide) (by omega) (fun h_4_1 => ?_) (fun h_4_1 => ?_)
  · refine z_aload_n dX13_ends_20 rfl ?_
    refine z_getf (j := b) dX13_ends_21 kF_RX13_54 rfl (by omega) h.ce rfl ?_
    refine z_bipush (v := nI 8) dX13_ends_24 rfl ?_
    refine z_icmp_ne_n (a := Hs.length) (b := 8) (tgt := 70) dX13_ends_26 (by decide) (by omega) (by omega) (fun h_26_2 => ?_) (fun h_26_2 => ?_)
    · refine z_iconst (v := nI 0) dX13_ends_70 rfl ?_
      refine z_istore_n (lv' := [(0, .ref (za g b)), (1, .int (x)), (2, .int (nI (0)))]) dX13_ends_71 (by decide) rfl ?_
      refine z_post (l_X13_ends (c9 := Hs.length) h0 hb (by omega) zFr.rf h) (fun o w1 h9 => ?_)
      obtain ⟨e1, e2, fq, e3, e4⟩ := h9
      have hl : (S :: Hs).take 8 = S :: Hs := List.take_of_length_le (by simp only [List.length_cons]; omega)
      rw [hl]
      refine ⟨e1, e2, fq, e3, hp.push (by omega) (fun k hk => ?_) (hvb.congr (fun k hk => ?_))⟩
      · rw [e4 k (by omega), if_neg (by omega)]
      · (try dsimp only); rw [e4 _ (by omega), if_pos (by omega)]; congr 1; omega
    · refine z_iconst (v := nI 0) dX13_ends_29 rfl ?_
      refine z_istore_n (lv' := [(0, .ref (za g b)), (1, .int (x)), (2, .int (nI (0)))]) dX13_ends_30 (by decide) rfl ?_
      exact loop31 (by omega) 2872 0 w fp (by omega) (Nat.zero_le _) zFr.rf h (fun k hk => by rw [if_neg (by omega)])
  · exact absurd h_4_1 (by decide)
