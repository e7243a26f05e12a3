/-! the class: what calls change (gen/clsE.py) -/
section
variable {τ τ' : TT} {α α' : AT} {M M' Mb : Mem}
theorem WL.of (h : WL τ) (e : τ' 13 = τ 13) : WL τ' := by unfold WL nL; rw [e]; exact h
theorem WS.of (h : WS τ) (e : τ' 28 = τ 28) : WS τ' := by unfold WS ssz; rw [e]; exact h
theorem WK.of (h : WK τ) (e1 : τ' 1 = τ 1) (e24 : τ' 24 = τ 24) (e25 : τ' 25 = τ 25) : WK τ' := by unfold WK nK nP; rw [e1, e24, e25]; exact h
theorem SQ.of (h : SQ τ) (e1 : τ' 1 = τ 1) (e2 : τ' 2 = τ 2) (e3 : τ' 3 = τ 3) (e4 : τ' 4 = τ 4) : SQ τ' := by unfold SQ thr nP wd hg; rw [e1, e2, e3, e4]; exact h
theorem LK.of (h : LK τ) (e24 : τ' 24 = τ 24) (e26 : τ' 26 = τ 26) (e27 : τ' 27 = τ 27) : LK τ' := by unfold LK nK; rw [e24, e26, e27]; exact h
theorem UN.of (h : UN τ) (e1 : τ' 1 = τ 1) (e16 : τ' 16 = τ 16) : UN τ' := by unfold UN nP; rw [e1, e16]; exact h
theorem WN.of (h : WN τ) (e1 : τ' 1 = τ 1) (e13 : τ' 13 = τ 13) (e16 : τ' 16 = τ 16) (e17 : τ' 17 = τ 17) (e18 : τ' 18 = τ 18) (e20 : τ' 20 = τ 20) (e21 : τ' 21 = τ 21) (e22 : τ' 22 = τ 22) : WN τ' := by
  unfold WN lnOK nP nL; rw [e1, e13, e16, e17, e18, e20, e21, e22]; exact h
/-- the world behind changes of the object, its arrays and what lies behind the reference -/
theorem CW.mk2 {S : Nat → Prop} (h : CW τ α M) (k : Kp S M M') (hS : ∀ b, S b → b = 2 ∨ b = 3 ∨ b = 4 ∨ b = 5 ∨ 49 ≤ b) (hgd : GD τ') (hx : XO τ' M') (e28 : τ' 28 = τ 28) (e29 : τ' 29 = τ 29) (e30 : τ' 30 = τ 30) (e32 : τ' 32 = τ 32)
    (hpc : ∀ p, p < nP τ' → PCp τ' α' M' p) (hlc : ∀ l, l < nL τ' → LCp τ' α' M' l) (hnc : ∀ p, p < nP τ' → ¬ τ' 16 p < 0 → NCp τ' α' M' p) (hkc : ∀ k, k < nK τ' → KCp τ' α' M' k) : CW τ' α' M' := by
  have hm := h.m1
  refine ⟨hgd, Nat.le_trans hm k.1, hx, h.ax.kp k hm (fun q => by have := hS _ q; omega), h.sx.kp k hm (fun b _ _ q => by have := hS _ q; omega), ?_, fun j hj => ?_, hpc, hlc, hnc, hkc⟩
  · rw [e32]; exact h.tv.kp k hm (fun q => by have := hS _ q; omega)
  · have c := (h.sh j hj).kp hj k hm (fun q => by have := hS _ q; omega) (fun q => by have := hS _ q; omega)
    unfold SHp ssz
    rw [e28, e29, e30]
    exact c
theorem PCp.cg {p : Nat} (h : PCp τ α M p) (e2 : τ' 2 p = τ 2 p) (e3 : τ' 3 p = τ 3 p) (e4 : ∀ k, k < 16 → τ' 4 (16 * p + k) = τ 4 (16 * p + k)) (e16 : τ' 16 p = τ 16 p) (a0 : α' 0 p = α 0 p) (a3 : α' 3 p = α 3 p) : PCp τ' α' M p := by
  obtain ⟨h1, h2, h3, h4⟩ := h
  have ep : pap τ' α' p = pap τ α p := by unfold pap; rw [e16, a3]
  have ew : wd τ' p = wd τ p := by unfold wd; rw [e2]
  have eh : hg τ' p = hg τ p := by unfold hg; rw [e3]
  unfold PCp
  rw [a0, e2, e3, ep]
  refine ⟨h1, h2, h3, h4.to (fun k hk => ?_)⟩
  show (if k % 4 < wd τ p ∧ k / 4 < hg τ p then τ 4 (16 * p + k) else -1) = (if k % 4 < wd τ' p ∧ k / 4 < hg τ' p then τ' 4 (16 * p + k) else -1)
  rw [ew, eh, e4 k hk]
theorem LCp.cg {l : Nat} (h : LCp τ α M l) (e14 : τ' 14 l = τ 14 l) (e15 : τ' 15 l = τ 15 l) (a1 : α' 1 l = α 1 l) : LCp τ' α' M l := by
  unfold LCp; rw [a1, e14, e15]; exact h
theorem KCp.cg {k : Nat} (h : KCp τ α M k) (e25 : τ' 25 k = τ 25 k) (e26 : τ' 26 k = τ 26 k) (e27 : τ' 27 k = τ 27 k) (a2 : α' 2 k = α 2 k) (a0 : α' 0 (dgt (τ 25) k) = α 0 (dgt (τ 25) k)) : KCp τ' α' M k := by
  have e : dgt (τ' 25) k = dgt (τ 25) k := by unfold dgt; rw [e25]
  unfold KCp; rw [a2, e, a0, e26, e27]; exact h
theorem NCp.cg {p : Nat} (h : NCp τ α M p) (e16 : τ' 16 p = τ 16 p) (e17 : τ' 17 p = τ 17 p) (e18 : τ' 18 p = τ 18 p) (e19 : τ' 19 p = τ 19 p) (e20 : τ' 20 p = τ 20 p) (e21 : τ' 21 p = τ 21 p) (e22 : ∀ j, j < 25 → τ' 22 (25 * p + j) = τ 22 (25 * p + j)) (a3 : α' 3 p = α 3 p) (a4 : α' 4 p = α 4 p) (a1 : α' 1 (dgt (τ 17) p) = α 1 (dgt (τ 17) p)) (a0 : ¬ τ 16 p = 0 → α' 0 (dgt (τ 20) p) = α 0 (dgt (τ 20) p)) : NCp τ' α' M p := by
  have d17 : dgt (τ' 17) p = dgt (τ 17) p := by unfold dgt; rw [e17]
  have d20 : dgt (τ' 20) p = dgt (τ 20) p := by unfold dgt; rw [e20]
  obtain ⟨h1, h2, h3⟩ := h
  refine ⟨by rw [a3]; exact h1, by rw [a3]; exact h2, ?_⟩
  rcases h3 with q | q | q
  · refine Or.inl ?_
    unfold NC0
    rw [e16, a3, d17, a1, e18, e19, e20, e21]
    exact q
  · refine Or.inr (Or.inl ?_)
    have a0 := a0 (by rw [q.1]; decide)
    obtain ⟨b1, b2, b3, b4, b5, b6, b7, b8, b9, l, c1, c2, c3, c4, c5, c6⟩ := q
    unfold NC1
    rw [e16, a3, d17, a1, e18, e19, e21, d20, a0, a4]
    refine ⟨b1, b2, b3, b4, b5, b6, b7, b8, b9, l, c1, c2, c3, c4, c5, fun j hj => ?_⟩
    obtain ⟨a, z1, z2⟩ := c6 j hj
    exact ⟨a, z1, actR_of z2 (fun i i1 i2 => by rw [show i = 25 * p + (i - 25 * p) by omega, e22 _ (by omega)])⟩
  · refine Or.inr (Or.inr ?_)
    have a0 := a0 (by rw [q.1]; decide)
    unfold NC2
    rw [e16, a3, d17, a1, e18, e19, d20, a0, e21]
    exact q
/-- cells of two pictures are apart -/
theorem CW.ap0 (h : CW τ α M) {p q : Nat} (hp : p < nP τ) (hq : q < nP τ) (hpq : q ≠ p) : α 0 q ≠ α 0 p ∧ α 0 q ≠ α 0 p + 1 ∧ α 0 q + 1 ≠ α 0 p := by
  have h12 := h.wp.1.1
  have a := (h.pc p hp).2.2.2
  have b := (h.pc q hq).2.2.2
  refine ⟨fun e => ?_, fun e => ?_, fun e => ?_⟩
  · have z := b.2.1
    rw [e, a.2.1] at z
    have z := Value.int.inj z
    rw [nI_eq (by omega) (by omega)] at z
    exact hpq z.symm
  · have z := b.1
    rw [e, a.2.2.2.2.2.2.1] at z
    exact absurd (congrArg Prod.fst z) (by decide)
  · have z := b.2.2.2.2.2.2.1
    rw [e, a.1] at z
    exact absurd (congrArg Prod.fst z) (by decide)
theorem apart {a b : Nat} {x y : Nat × Nat} (ha : M.2.1 a = x) (hb : M.2.1 b = y) (h : x ≠ y) : a ≠ b := fun e => h (by rw [← ha, ← hb, e])
theorem CW.kdp (h : CW τ α M) {p : Nat} (hp : p < nP τ) : M.2.1 (α 0 p) = (3, 5) ∧ M.2.1 (α 0 p + 1) = (20, 16) := ⟨(h.pc p hp).2.2.2.1, (h.pc p hp).2.2.2.2.2.2.2.2.2.1⟩
/-- only what pictures hold of p's squares has changed -/
theorem CW.pix {p : Nat} (h : CW τ α M) (hp : p < nP τ) (f : Wd (α 0 p + 1) M M') (hA : AR M' (α 0 p + 1) 16 (brG (hOf τ' p))) (he : ∀ i, i ≠ 4 → τ' i = τ i) (h4 : ∀ q k, q ≠ p → k < 16 → τ' 4 (16 * q + k) = τ 4 (16 * q + k)) (hs : SQ τ') : CW τ' α M' := by
  have hm := h.m1
  have k := f.kp
  have e := fun i (h1 : i ≠ 4) => he i h1
  have h49 := (h.pc p hp).1
  have hk := h.kdp hp
  have hn : nP τ' = nP τ := by unfold nP; rw [e 1 (by decide)]
  obtain ⟨g1, g2, g3, g4, g5, -, g7, g8, g9⟩ := h.gd
  refine h.mk2 k (fun b q => by omega) ⟨g1.of (e 1 (by decide)) (e 2 (by decide)) (e 3 (by decide)), g2.of (e 13 (by decide)), g3.of (e 28 (by decide)), g4.of (e 1 (by decide)) (e 13 (by decide)) (e 16 (by decide)) (e 17 (by decide)) (e 18 (by decide)) (e 20 (by decide)) (e 21 (by decide)) (e 22 (by decide)), g5.of (e 1 (by decide)) (e 24 (by decide)) (e 25 (by decide)), hs, by rw [e 23 (by decide)]; exact g7, g8.of (e 24 (by decide)) (e 26 (by decide)) (e 27 (by decide)), g9.of (e 1 (by decide)) (e 16 (by decide))⟩ ?_ (e 28 (by decide)) (e 29 (by decide)) (e 30 (by decide)) (e 32 (by decide)) ?_ ?_ ?_ ?_
  · have hx := h.xo.kp k hm (by omega)
    unfold XO
    rw [e 1 (by decide), e 13 (by decide), e 24 (by decide), e 23 (by decide), e 0 (by decide)]
    exact hx
  · intro q hq
    rw [hn] at hq
    by_cases c : q = p
    · subst c
      obtain ⟨c1, c2, c3, c4⟩ := h.pc q hq
      have ep : pap τ' α q = pap τ α q := by unfold pap; rw [e 16 (by decide)]
      refine ⟨c1, Nat.lt_of_lt_of_le c2 k.1, by rw [f.2.2 3 (by omega)]; exact c3, ?_⟩
      rw [e 2 (by decide), e 3 (by decide), ep]
      exact c4.sqs f hA
    · have ha := h.ap0 hp hq c
      exact ((h.pc q hq).kp k hm (by omega) ha.2.1 (by omega)).cg (by rw [e 2 (by decide)]) (by rw [e 3 (by decide)]) (fun j hj => h4 q j c hj) (by rw [e 16 (by decide)]) rfl rfl
  · intro l hl
    rw [show nL τ' = nL τ by unfold nL; rw [e 13 (by decide)]] at hl
    exact ((h.lc l hl).kp k hm (by omega) (apart (h.lc l hl).2.2.2.1 hk.2 (by decide))).cg (by rw [e 14 (by decide)]) (by rw [e 15 (by decide)]) rfl
  · intro q hq hno
    rw [hn] at hq
    rw [e 16 (by decide)] at hno
    have c := h.nc q hq hno
    refine (c.kp k (fun z => ?_) (fun z y => ?_)).cg (by rw [e 16 (by decide)]) (by rw [e 17 (by decide)]) (by rw [e 18 (by decide)]) (by rw [e 19 (by decide)]) (by rw [e 20 (by decide)]) (by rw [e 21 (by decide)]) (fun j _ => by rw [e 22 (by decide)]) rfl rfl rfl (fun _ => rfl)
    · rcases c.kd with y | y | y <;> exact apart y hk.2 (by decide) z
    · obtain ⟨m, m1, m2⟩ := z.kd
      exact apart m2 hk.2 (fun w => by have := congrArg Prod.snd w; have : m = 16 := this; omega) y
  · intro j hj
    rw [show nK τ' = nK τ by unfold nK; rw [e 24 (by decide)]] at hj
    exact ((h.kc j hj).kp k hm (by omega) (apart (h.kc j hj).2.2.2.1 hk.2 (by decide))).cg (by rw [e 25 (by decide)]) (by rw [e 26 (by decide)]) (by rw [e 27 (by decide)]) rfl rfl
/-- a picture's line has changed -/
theorem CW.lnw {p : Nat} {v : Value} (h : CW τ α M) (hp : p < nP τ) (f : Wf (α 0 p) 4 v M M') (hv : v = pap τ' α' p) (hn : ¬ τ' 16 p < 0 → NCp τ' α' M p) (he : ∀ i, i ≠ 5 → i ≠ 16 → i ≠ 17 → i ≠ 18 → i ≠ 19 → i ≠ 20 → i ≠ 21 → i ≠ 22 → τ' i = τ i) (hq : ∀ q, q ≠ p → τ' 16 q = τ 16 q ∧ τ' 17 q = τ 17 q ∧ τ' 18 q = τ 18 q ∧ τ' 19 q = τ 19 q ∧ τ' 20 q = τ 20 q ∧ τ' 21 q = τ 21 q ∧ ∀ j, j < 25 → τ' 22 (25 * q + j) = τ 22 (25 * q + j))
    (ha : α' 0 = α 0 ∧ α' 1 = α 1 ∧ α' 2 = α 2 ∧ ∀ q, q ≠ p → α' 3 q = α 3 q ∧ α' 4 q = α 4 q) (hl : τ' 16 p = -9 ∨ lnOK τ' p) : CW τ' α' M' := by
  have hm := h.m1
  have k := f.toWd.kp
  have e := fun i (h1 : i ≠ 5 ∧ i ≠ 16 ∧ i ≠ 17 ∧ i ≠ 18 ∧ i ≠ 19 ∧ i ≠ 20 ∧ i ≠ 21 ∧ i ≠ 22) => he i h1.1 h1.2.1 h1.2.2.1 h1.2.2.2.1 h1.2.2.2.2.1 h1.2.2.2.2.2.1 h1.2.2.2.2.2.2.1 h1.2.2.2.2.2.2.2
  have h49 := (h.pc p hp).1
  have hk := h.kdp hp
  have hnn : nP τ' = nP τ := by unfold nP; rw [e 1 (by decide)]
  have hnl : nL τ' = nL τ := by unfold nL; rw [e 13 (by decide)]
  obtain ⟨g1, g2, g3, g4, g5, g6, g7, g8, g9⟩ := h.gd
  refine h.mk2 k (fun b q => by omega) ⟨g1.of (e 1 (by decide)) (e 2 (by decide)) (e 3 (by decide)), g2.of (e 13 (by decide)), g3.of (e 28 (by decide)), ?_, g5.of (e 1 (by decide)) (e 24 (by decide)) (e 25 (by decide)), g6.of (e 1 (by decide)) (e 2 (by decide)) (e 3 (by decide)) (e 4 (by decide)), by rw [e 23 (by decide)]; exact g7, g8.of (e 24 (by decide)) (e 26 (by decide)) (e 27 (by decide)), ?_⟩ ?_ (e 28 (by decide)) (e 29 (by decide)) (e 30 (by decide)) (e 32 (by decide)) ?_ ?_ ?_ ?_
  · intro q hq2
    rw [hnn] at hq2
    by_cases c : q = p
    · rw [c]; exact hl
    · obtain ⟨z16, z17, z18, z19, z20, z21, z22⟩ := hq q c
      rcases g4 q hq2 with y | ⟨y1, y2, y3, y4, y5⟩
      · exact Or.inl (z16.trans y)
      · refine Or.inr ⟨by rw [z16]; exact y1, by rw [z17, hnl]; exact y2, by rw [z18]; exact y3, by rw [z16, z20]; exact y4, ?_⟩
        rw [z16, z21]
        intro w
        obtain ⟨a, a1, a2, a3⟩ := y5 w
        refine ⟨a, a1, a2, fun j hj => ?_⟩
        have b := a3 j hj
        have ez : ∀ i, i < 5 → τ' 22 (25 * q + 5 * j + i) = τ 22 (25 * q + 5 * j + i) := fun i hi => by rw [show 25 * q + 5 * j + i = 25 * q + (5 * j + i) by omega, z22 _ (by omega)]
        unfold actOK at b ⊢
        rw [ez 1 (by omega), ez 2 (by omega), ez 3 (by omega), ez 4 (by omega), show τ' 22 (25 * q + 5 * j) = τ 22 (25 * q + 5 * j) from ez 0 (by omega)]
        exact b
  · intro q q1 q2
    rw [hnn] at q1
    rw [(hq q (by omega)).1]
    exact g9 q q1 q2
  · have hx := h.xo.kp k hm (by omega)
    unfold XO
    rw [e 1 (by decide), e 13 (by decide), e 24 (by decide), e 23 (by decide), e 0 (by decide)]
    exact hx
  · intro q hq2
    rw [hnn] at hq2
    by_cases c : q = p
    · subst c
      obtain ⟨c1, c2, c3, c4⟩ := h.pc q hq2
      have c5 : PV M' (α 0 q) (nI q) (τ 2 q) (τ 3 q) (brG (hOf τ q)) v := c4.pap f
      unfold PCp hOf wd hg
      rw [ha.1, e 2 (by decide), e 3 (by decide), e 4 (by decide), ← hv]
      exact ⟨c1, Nat.lt_of_lt_of_le c2 k.1, by rw [f.toWd.2.2 3 (by omega)]; exact c3, c5⟩
    · have hap := h.ap0 hp hq2 c
      exact ((h.pc q hq2).kp k hm (by omega) hap.1 hap.2.2).cg (by rw [e 2 (by decide)]) (by rw [e 3 (by decide)]) (fun j hj => by rw [e 4 (by decide)]) (hq q c).1 (by rw [ha.1]) (ha.2.2.2 q c).1
  · intro l hl2
    rw [hnl] at hl2
    exact ((h.lc l hl2).kp k hm (by omega) (apart (h.lc l hl2).2.2.2.1 hk.1 (by decide))).cg (by rw [e 14 (by decide)]) (by rw [e 15 (by decide)]) (by rw [ha.2.1])
  · intro q hq2 hno
    rw [hnn] at hq2
    by_cases c : q = p
    · subst c
      have c2 := hn hno
      refine c2.kp k (fun z => ?_) (fun z y => ?_)
      · rcases c2.kd with y | y | y <;> exact apart y hk.1 (by decide) z
      · obtain ⟨m, m1, m2⟩ := z.kd
        exact apart m2 hk.1 (fun w => by have w2 := congrArg Prod.fst w; have : (20 : Nat) = 3 := w2; omega) y
    · obtain ⟨z16, z17, z18, z19, z20, z21, z22⟩ := hq q c
      rw [z16] at hno
      have c2 := h.nc q hq2 hno
      refine (c2.kp k (fun z => ?_) (fun z y => ?_)).cg z16 z17 z18 z19 z20 z21 z22 (ha.2.2.2 q c).1 (ha.2.2.2 q c).2 (by rw [ha.2.1]) (fun _ => by rw [ha.1])
      · rcases c2.kd with y | y | y <;> exact apart y hk.1 (by decide) z
      · obtain ⟨m, m1, m2⟩ := z.kd
        exact apart m2 hk.1 (fun w => by have w2 := congrArg Prod.fst w; have : (20 : Nat) = 3 := w2; omega) y
  · intro j hj
    rw [show nK τ' = nK τ by unfold nK; rw [e 24 (by decide)]] at hj
    exact ((h.kc j hj).kp k hm (by omega) (apart (h.kc j hj).2.2.2.1 hk.1 (by decide))).cg (by rw [e 25 (by decide)]) (by rw [e 26 (by decide)]) (by rw [e 27 (by decide)]) (by rw [ha.2.2.1]) (by rw [ha.1])
theorem CW.kpF (h : CW τ α M) (k : Kp (fun _ => False) M M') : CW τ α M' := by
  have hm := h.m1
  exact h.low k (fun b q => q.elim) h.gd (h.xo.kp k hm (fun q => q)) (h.sx.kp k hm (fun b _ _ q => q)) (h.tv.kp k hm (fun q => q)) (fun j hj => (h.sh j hj).kp hj k hm (fun q => q) (fun q => q)) rfl rfl rfl rfl rfl rfl rfl rfl rfl rfl rfl rfl rfl rfl rfl rfl rfl rfl
/-- something new is written, the world stands -/
theorem CW.hi {A : Nat} (hb : CW τ α Mb) (k : Kp SC Mb M) (h : CW τ α M) (w : Wd A M M') (hA : Mb.1 ≤ A) : Kp SC Mb M' ∧ CW τ α M' := by
  have hm := h.m1
  have hbm := hb.m1
  have k2 : Kp SC Mb M' := ⟨by rw [w.1]; exact k.1, fun b q => by rw [w.2.1]; exact k.2.1 b q, fun b q z => by rw [w.2.2 b (by omega)]; exact k.2.2 b q z⟩
  exact ⟨k2, hb.scw k2 (h.sx.kp w.kp hm (fun b _ _ => by omega))⟩
theorem CW.hin {A : Nat} {kn : Nat × Nat} {g : Nat → Value} (hb : CW τ α Mb) (k : Kp SC Mb M) (h : CW τ α M) (w : NW A kn g M M') (hA : M.1 = A) : Kp SC Mb M' ∧ CW τ α M' := ⟨k.trans (w.kp hA), h.kpF (w.kp hA)⟩
/-- an array of objects has got one more behind its last -/
theorem CW.ar3 {v : Value} (h : CW τ α M) (f : Wf 3 (nP τ) v M M') : CW τ α M' := by
  have hm := h.m1
  have k := f.toWd.kp
  refine h.mk2 k (fun b q => by omega) h.gd (h.xo.kp k hm (by decide)) rfl rfl rfl rfl ?_ ?_ ?_ ?_
  · intro q hq
    have c := h.pc q hq
    exact ⟨c.1, Nat.lt_of_lt_of_le c.2.1 k.1, (f.2.2.2 3 q (by omega)).trans c.2.2.1, c.2.2.2.kp k c.2.1 (by have := c.1; omega) (by have := c.1; omega)⟩
  · intro l hl
    exact (h.lc l hl).kp k hm (by decide) (by have := (h.lc l hl).1; omega)
  · intro q hq hno
    have c := h.nc q hq hno
    exact c.kp k (by have := c.1; omega) (fun z => by have := z.2.2.2.2.2.2.2.1; omega)
  · intro j hj
    exact (h.kc j hj).kp k hm (by decide) (by have := (h.kc j hj).1; omega)
theorem CW.ar4 {v : Value} (h : CW τ α M) (f : Wf 4 (nL τ) v M M') : CW τ α M' := by
  have hm := h.m1
  have k := f.toWd.kp
  refine h.mk2 k (fun b q => by omega) h.gd (h.xo.kp k hm (by decide)) rfl rfl rfl rfl ?_ ?_ ?_ ?_
  · intro q hq
    exact (h.pc q hq).kp k hm (by decide) (by have := (h.pc q hq).1; omega) (by have := (h.pc q hq).1; omega)
  · intro l hl
    have c := h.lc l hl
    have e := f.toWd.2.2 (α 1 l) (by have := c.1; omega)
    exact ⟨c.1, Nat.lt_of_lt_of_le c.2.1 k.1, (f.2.2.2 4 l (by omega)).trans c.2.2.1, (k.2.1 _ c.2.1).trans c.2.2.2.1, by rw [e]; exact c.2.2.2.2.1, by rw [e]; exact c.2.2.2.2.2.1, by rw [e]; exact c.2.2.2.2.2.2⟩
  · intro q hq hno
    have c := h.nc q hq hno
    exact c.kp k (by have := c.1; omega) (fun z => by have := z.2.2.2.2.2.2.2.1; omega)
  · intro j hj
    exact (h.kc j hj).kp k hm (by decide) (by have := (h.kc j hj).1; omega)
theorem CW.ar5 {v : Value} (h : CW τ α M) (f : Wf 5 (nK τ) v M M') : CW τ α M' := by
  have hm := h.m1
  have k := f.toWd.kp
  refine h.mk2 k (fun b q => by omega) h.gd (h.xo.kp k hm (by decide)) rfl rfl rfl rfl ?_ ?_ ?_ ?_
  · intro q hq
    exact (h.pc q hq).kp k hm (by decide) (by have := (h.pc q hq).1; omega) (by have := (h.pc q hq).1; omega)
  · intro l hl
    exact (h.lc l hl).kp k hm (by decide) (by have := (h.lc l hl).1; omega)
  · intro q hq hno
    have c := h.nc q hq hno
    exact c.kp k (by have := c.1; omega) (fun z => by have := z.2.2.2.2.2.2.2.1; omega)
  · intro j hj
    have c := h.kc j hj
    have e := f.toWd.2.2 (α 2 j) (by have := c.1; omega)
    exact ⟨c.1, Nat.lt_of_lt_of_le c.2.1 k.1, (f.2.2.2 5 j (by omega)).trans c.2.2.1, (k.2.1 _ c.2.1).trans c.2.2.2.1, by rw [e]; exact c.2.2.2.2.1, by rw [e]; exact c.2.2.2.2.2.1, by rw [e]; exact c.2.2.2.2.2.2⟩
def au (α : AT) (i k v : Nat) : AT := fun a b => if a = i ∧ b = k then v else α a b
theorem au_at {i k v : Nat} : au α i k v i k = v := if_pos ⟨rfl, rfl⟩
theorem au_ne {i k v a b : Nat} (h : ¬ (a = i ∧ b = k)) : au α i k v a b = α a b := if_neg h
/-- one lens more -/
theorem CW.nle {A : Nat} {key : Int32} (h : CW τ α M) (hA : 49 ≤ A ∧ A < M.1) (hn : nL τ < 6) (hs : M.2.2 4 (nL τ) = .ref A) (hk : M.2.1 A = (1, 3)) (h0 : M.2.2 A 0 = .int (nI (nL τ))) (h1 : M.2.2 A 1 = .int key) (h2 : M.2.2 A 2 = .int 1000) (f : Wf 2 9 (.int (nI (nL τ + 1))) M M') : CW (tu (tu (tu τ 14 (nL τ) key) 15 (nL τ) 1000) 13 0 (nI (nL τ + 1))) (au α 1 (nL τ) A) M' := by
  have hm := h.m1
  have k := f.toWd.kp
  have hc : nL (tu (tu (tu τ 14 (nL τ) key) 15 (nL τ) 1000) 13 0 (nI (nL τ + 1))) = nL τ + 1 := by
    show (tu _ 13 0 (nI (nL τ + 1)) 13 0).toNatClampNeg = _
    rw [tu_at, nI_clamp (by omega)]
  obtain ⟨g1, g2, g3, g4, g5, g6, g7, g8, g9⟩ := h.gd
  refine h.mk2 k (fun b q => by omega) ⟨g1, ⟨by rw [hc]; omega, by rw [hc]; rfl⟩, g3, ?_, g5, g6, g7, g8, g9⟩ (h.xo.nle f) rfl rfl rfl rfl ?_ ?_ ?_ ?_
  · intro p hp
    rcases g4 p hp with q | ⟨q1, ⟨l, l1, l2⟩, q3⟩
    · exact Or.inl q
    · exact Or.inr ⟨q1, ⟨l, by rw [hc]; omega, l2⟩, q3⟩
  · intro q hq
    exact ((h.pc q hq).kp k hm (by decide) (by have := (h.pc q hq).1; omega) (by have := (h.pc q hq).1; omega)).cg rfl rfl (fun _ _ => rfl) rfl (au_ne (by omega)) (au_ne (by omega))
  · intro l hl
    rw [hc] at hl
    by_cases e : l = nL τ
    · subst e
      have z := f.toWd.2.2 A (by omega)
      unfold LCp
      rw [au_at]
      exact ⟨hA.1, Nat.lt_of_lt_of_le hA.2 k.1, by rw [f.toWd.2.2 4 (by omega)]; exact hs, (k.2.1 _ hA.2).trans hk, by rw [z]; exact h0, by rw [z]; exact h1.trans (by show _ = Value.int (tu τ 14 (nL τ) key 14 (nL τ)); rw [tu_at]), by rw [z]; exact h2.trans (by show _ = Value.int (tu (tu τ 14 (nL τ) key) 15 (nL τ) 1000 15 (nL τ)); rw [tu_at])⟩
    · refine ((h.lc l (by omega)).kp k hm (by decide) (by have := (h.lc l (by omega)).1; omega)).cg ?_ ?_ (au_ne (by omega))
      · show tu τ 14 (nL τ) key 14 l = _
        rw [tu_nk e]
      · show tu (tu τ 14 (nL τ) key) 15 (nL τ) 1000 15 l = _
        rw [tu_nk e]; rfl
  · intro q hq hno
    have c := h.nc q hq hno
    have hl := (h.ln hq hno).1
    exact (c.kp k (by have := c.1; omega) (fun z => by have := z.2.2.2.2.2.2.2.1; omega)).cg rfl rfl rfl rfl rfl rfl (fun _ _ => rfl) (au_ne (by omega)) (au_ne (by omega)) (au_ne (by omega)) (fun _ => au_ne (by omega))
  · intro j hj
    exact ((h.kc j hj).kp k hm (by decide) (by have := (h.kc j hj).1; omega)).cg rfl rfl rfl (au_ne (by omega)) (au_ne (by omega))
/-- one look more -/
theorem CW.nlo {A p : Nat} {hr wt : Int32} (h : CW τ α M) (hA : 49 ≤ A ∧ A < M.1) (hn : nK τ < 9) (hp : p < nP τ) (i1 : irg hr 1 9) (i2 : irg wt 0 99) (hs : M.2.2 5 (nK τ) = .ref A) (hk : M.2.1 A = (2, 3)) (h0 : M.2.2 A 0 = .ref (α 0 p)) (h1 : M.2.2 A 1 = .int hr) (h2 : M.2.2 A 2 = .int wt) (f : Wf 2 10 (.int (nI (nK τ + 1))) M M') : CW (tLk τ p hr wt) (au α 2 (nK τ) A) M' := by
  have hm := h.m1
  have h12 := h.wp.1.1
  have k := f.toWd.kp
  have hc : nK (tLk τ p hr wt) = nK τ + 1 := by
    show (tu _ 24 0 (nI (nK τ + 1)) 24 0).toNatClampNeg = _
    rw [tu_at, nI_clamp (by omega)]
  have r25 : ∀ j, j ≠ nK τ → tLk τ p hr wt 25 j = τ 25 j := fun j hj => by show tu τ 25 (nK τ) (nI p) 25 j = _; rw [tu_nk hj]
  have r26 : ∀ j, j ≠ nK τ → tLk τ p hr wt 26 j = τ 26 j := fun j hj => by show tu (tu τ 25 (nK τ) (nI p)) 26 (nK τ) hr 26 j = _; rw [tu_nk hj]; rfl
  have r27 : ∀ j, j ≠ nK τ → tLk τ p hr wt 27 j = τ 27 j := fun j hj => by show tu (tu (tu τ 25 (nK τ) (nI p)) 26 (nK τ) hr) 27 (nK τ) wt 27 j = _; rw [tu_nk hj]; rfl
  have s25 : tLk τ p hr wt 25 (nK τ) = nI p := by show tu τ 25 (nK τ) (nI p) 25 (nK τ) = _; rw [tu_at]
  have s26 : tLk τ p hr wt 26 (nK τ) = hr := by show tu (tu τ 25 (nK τ) (nI p)) 26 (nK τ) hr 26 (nK τ) = _; rw [tu_at]
  have s27 : tLk τ p hr wt 27 (nK τ) = wt := by show tu (tu (tu τ 25 (nK τ) (nI p)) 26 (nK τ) hr) 27 (nK τ) wt 27 (nK τ) = _; rw [tu_at]
  obtain ⟨g1, g2, g3, g4, g5, g6, g7, g8, g9⟩ := h.gd
  refine h.mk2 k (fun b q => by omega) ⟨g1, g2, g3, g4, ⟨⟨by rw [hc]; omega, by rw [hc]; rfl⟩, ?_⟩, g6, g7, ?_, g9⟩ (h.xo.nlo f) rfl rfl rfl rfl ?_ ?_ ?_ ?_
  · intro j hj
    rw [hc] at hj
    by_cases e : j = nK τ
    · rw [e, s25]; exact ⟨p, hp, rfl⟩
    · rw [r25 j e]; exact g5.2 j (by omega)
  · intro j hj
    rw [hc] at hj
    by_cases e : j = nK τ
    · rw [e, s26, s27]; exact ⟨i1, i2⟩
    · rw [r26 j e, r27 j e]; exact g8 j (by omega)
  · intro q hq
    exact ((h.pc q hq).kp k hm (by decide) (by have := (h.pc q hq).1; omega) (by have := (h.pc q hq).1; omega)).cg rfl rfl (fun _ _ => rfl) rfl (au_ne (by omega)) (au_ne (by omega))
  · intro l hl
    exact ((h.lc l hl).kp k hm (by decide) (by have := (h.lc l hl).1; omega)).cg rfl rfl (au_ne (by omega))
  · intro q hq hno
    have c := h.nc q hq hno
    exact (c.kp k (by have := c.1; omega) (fun z => by have := z.2.2.2.2.2.2.2.1; omega)).cg rfl rfl rfl rfl rfl rfl (fun _ _ => rfl) (au_ne (by omega)) (au_ne (by omega)) (au_ne (by omega)) (fun _ => au_ne (by omega))
  · intro j hj
    rw [hc] at hj
    by_cases e : j = nK τ
    · subst e
      have z := f.toWd.2.2 A (by omega)
      have d : dgt (tLk τ p hr wt 25) (nK τ) = p := dgt_n s25 (by omega)
      unfold KCp
      rw [au_at, d, s26, s27, au_ne (by omega)]
      exact ⟨hA.1, Nat.lt_of_lt_of_le hA.2 k.1, by rw [f.toWd.2.2 5 (by omega)]; exact hs, (k.2.1 _ hA.2).trans hk, by rw [z]; exact h0, by rw [z]; exact h1, by rw [z]; exact h2⟩
    · exact ((h.kc j (by omega)).kp k hm (by decide) (by have := (h.kc j (by omega)).1; omega)).cg (r25 j e) (r26 j e) (r27 j e) (au_ne (by omega)) (au_ne (by omega))
/-- a lens stolen -/
theorem CW.stl {l : Nat} {v : Int32} (h : CW τ α M) (hl : l < nL τ) (f : Wf (α 1 l) 2 (.int v) M M') : CW (tu τ 15 l v) α M' := by
  have hm := h.m1
  have h6 := h.wl.1
  have k := f.toWd.kp
  have hk := (h.lc l hl).2.2.2.1
  have h49 := (h.lc l hl).1
  refine h.mk2 k (fun b q => by omega) h.gd (h.xo.kp k hm (by omega)) rfl rfl rfl rfl ?_ ?_ ?_ ?_
  · intro q hq
    have kd := h.kdp hq
    exact (h.pc q hq).kp k hm (by omega) (apart kd.1 hk (by decide)) (apart kd.2 hk (by decide))
  · intro j hj
    have hj : j < nL τ := hj
    by_cases e : j = l
    · subst e
      have c := h.lc j hj
      refine ⟨c.1, Nat.lt_of_lt_of_le c.2.1 k.1, by rw [f.toWd.2.2 4 (by omega)]; exact c.2.2.1, (k.2.1 _ c.2.1).trans hk, (f.2.2.2 _ _ (by omega)).trans c.2.2.2.2.1, (f.2.2.2 _ _ (by omega)).trans c.2.2.2.2.2.1, f.2.2.1.trans ?_⟩
      rw [tu_at]
    · have c := h.lc j hj
      have hne : α 1 j ≠ α 1 l := fun z => by
        have y := c.2.2.2.2.1
        rw [z, (h.lc l hl).2.2.2.2.1] at y
        have y := Value.int.inj y
        rw [nI_eq (by omega) (by omega)] at y
        exact e y.symm
      exact (c.kp k hm (by omega) hne).cg rfl (tu_nk e) rfl
  · intro q hq hno
    have c := h.nc q hq hno
    refine c.kp k (fun z => ?_) (fun z y => ?_)
    · rcases c.kd with y | y | y <;> exact apart y hk (by decide) z
    · obtain ⟨m, m1, m2⟩ := z.kd
      exact apart m2 hk (fun w => by have w2 := congrArg Prod.fst w; have : (20 : Nat) = 1 := w2; omega) y
  · intro j hj
    exact (h.kc j hj).kp k hm (by omega) (apart (h.kc j hj).2.2.2.1 hk (by decide))
end

def rmX11_steal : Room := { frames := 2, cells := 0, slots := 0, locals := 43 }
set_option maxHeartbeats 4000000 in
set_option maxRecDepth 100000 in
theorem n_X11_steal {M0 : Mem} {τ : TT} {α : AT} {v w : Int32} (hC : CW τ α M0) (hno : ¬ ir v (nL τ)) : CK mX11_steal rmX11_steal [.int v, .int w] M0 (.int (-1)) (τ) := by
  refine am_of rfl rfl (ls := [some (.ref 2), some (.int v), some (.int w), none, none]) rfl ?_
  suffices HH : ∀ M, (CW τ α M) → (Kr M0 M) → AW mX11_steal rmX11_steal (fun r' M' => r' = (some (.int (-1))) ∧ (fun M2 => Kr M0 M2 ∧ ∃ α2, CW (τ) α2 M2) M') 0 [some (.ref 2), some (.int v), some (.int w), none, none] [] M 0 0 from HH M0 hC (Kr.rf _)
  intro M hC hR
  refine aw_aload0 0 dX11_steal_0 ?_
  refine aw_iload1 1 dX11_steal_1 ?_
  refine cr_v1 2 dX11_steal_2 (n_X11_lensAt hC hno) ckV_RX11_137 cd_X11_lensAt hC.xo.1 vc11 rfl rfl (Nat.le_of_ble_eq_true rfl) ⟨⟨by decide, by decide⟩, by decide, by decide⟩ rfl ?_
  refine aw_astoreN3 5 dX11_steal_5 rfl ?_
  refine aw_aloadN3 6 dX11_steal_6 ?_
  refine aw_ifnonnullN 7 dX11_steal_7 ?_
  refine aw_icm1 10 dX11_steal_10 ?_
  refine aw_iret 11 dX11_steal_11 rfl (Nat.zero_le _) (Nat.zero_le _) ?_
  exact ⟨rfl, hR, α, hC⟩

set_option maxHeartbeats 4000000 in
set_option maxRecDepth 100000 in
theorem c_X11_steal {M0 : Mem} {τ : TT} {α : AT} {l : Nat} {v : Int32} (hC : CW τ α M0) (hl : l < nL τ) : CK mX11_steal rmX11_steal [.int (nI l), .int v] M0 (.int (if irg v 0 1000 then τ 15 l else -2)) (if irg v 0 1000 then tu τ 15 l v else τ) := by
  refine am_of rfl rfl (ls := [some (.ref 2), some (.int (nI l)), some (.int v), none, none]) rfl ?_
  suffices HH : ∀ M, (CW τ α M) → (Kr M0 M) → AW mX11_steal rmX11_steal (fun r' M' => r' = (some (.int (if irg v 0 1000 then τ 15 l else -2))) ∧ (fun M2 => Kr M0 M2 ∧ ∃ α2, CW (if irg v 0 1000 then tu τ 15 l v else τ) α2 M2) M') 0 [some (.ref 2), some (.int (nI l)), some (.int v), none, none] [] M 0 0 from HH M0 hC (Kr.rf _)
  intro M hC hR
  refine aw_aload0 0 dX11_steal_0 ?_
  refine aw_iload1 1 dX11_steal_1 ?_
  refine cr_v1 2 dX11_steal_2 (c_X11_lensAt hC hl) ckV_RX11_137 cd_X11_lensAt hC.xo.1 vc11 rfl rfl (Nat.le_of_ble_eq_true rfl) ⟨⟨by decide, by decide⟩, by decide, by decide⟩ rfl ?_
  refine aw_astore3 5 dX11_steal_5 rfl ?_
  refine aw_aload3 6 dX11_steal_6 ?_
  refine aw_ifnonnull 7 12 dX11_steal_7 (by decide) ?_
  refine aw_iload2 12 dX11_steal_12 ?_
  refine aw_ic0 13 dX11_steal_13 ?_
  refine aw_sipush 14 1000 dX11_steal_14 (by decide) ?_
  refine cr_s1 17 dX11_steal_17 (cr_sd (c_isInZ (0) (1000) (by decide) (by decide))) ckS_RX11_72 cd_X11_isIn rfl (Nat.le_of_ble_eq_true rfl) ⟨⟨by decide, by decide⟩, by decide, by decide⟩ rfl ?_
  refine aw_ifne_b 20 26 dX11_steal_20 (by decide) (fun h20 => ?_) (fun h20 => ?_)
  · rw [if_pos h20, if_pos h20]
    refine aw_aload3 26 dX11_steal_26 ?_
    refine aw_get 27 dX11_steal_27 ckF_RX11_141_1 (hC.lc l hl).2.2.2.1 (hC.lc l hl).2.2.2.2.2.2 ?_
    refine aw_istore4 30 dX11_steal_30 rfl ?_
    refine aw_aload3 32 dX11_steal_32 ?_
    refine aw_iload2 33 dX11_steal_33 ?_
    refine fp_put 34 dX11_steal_34 ckF_RX11_141_1 ckP1_2 (hC.lc l hl).2.2.2.1 rfl rfl (fun M hd => ?_)
    have h49 := (hC.lc l hl).1
    replace hR := hR.trans (hd.toWd.kp.kr hC.m1 (fun b q => by omega))
    replace hC := hC.stl hl hd
    refine aw_iload4 37 dX11_steal_37 ?_
    refine aw_iret 39 dX11_steal_39 rfl (Nat.zero_le _) (Nat.zero_le _) ?_
    exact ⟨rfl, hR, α, hC⟩
  · rw [if_neg h20, if_neg h20]
    refine aw_bipush 23 (-2) dX11_steal_23 (by decide) ?_
    refine aw_iret 25 dX11_steal_25 rfl (Nat.zero_le _) (Nat.zero_le _) ?_
    exact ⟨rfl, hR, α, hC⟩

def rmX11_alter : Room := { frames := 3, cells := 0, slots := 0, locals := 63 }
set_option maxHeartbeats 4000000 in
set_option maxRecDepth 100000 in
theorem n_X11_alter {M0 : Mem} {τ : TT} {α : AT} {v j w : Int32} (hC : CW τ α M0) (hno : ¬ ir v (nP τ)) : CK mX11_alter rmX11_alter [.int v, .int j, .int w] M0 (.int (-1)) (τ) := by
  refine am_of rfl rfl (ls := [some (.ref 2), some (.int v), some (.int j), some (.int w), none, none]) rfl ?_
  suffices HH : ∀ M, (CW τ α M) → (Kr M0 M) → AW mX11_alter rmX11_alter (fun r' M' => r' = (some (.int (-1))) ∧ (fun M2 => Kr M0 M2 ∧ ∃ α2, CW (τ) α2 M2) M') 0 [some (.ref 2), some (.int v), some (.int j), some (.int w), none, none] [] M 0 0 from HH M0 hC (Kr.rf _)
  intro M hC hR
  refine aw_aload0 0 dX11_alter_0 ?_
  refine aw_iload1 1 dX11_alter_1 ?_
  refine cr_v1 2 dX11_alter_2 (n_X11_pictureAt hC hno) ckV_RX11_106 cd_X11_pictureAt hC.xo.1 vc11 rfl rfl (Nat.le_of_ble_eq_true rfl) ⟨⟨by decide, by decide⟩, by decide, by decide⟩ rfl ?_
  refine aw_astoreN4 5 dX11_alter_5 rfl ?_
  refine aw_aloadN4 7 dX11_alter_7 ?_
  refine aw_ifnullN 9 21 dX11_alter_9 (by decide) ?_
  refine aw_icm1 21 dX11_alter_21 ?_
  refine aw_iret 22 dX11_alter_22 rfl (Nat.zero_le _) (Nat.zero_le _) ?_
  exact ⟨rfl, hR, α, hC⟩

set_option maxHeartbeats 4000000 in
set_option maxRecDepth 100000 in
theorem n2_X11_alter {M0 : Mem} {τ : TT} {α : AT} {p : Nat} {j w : Int32} (hC : CW τ α M0) (hp : p < nP τ) (hj : ¬ irg j 0 15) : CK mX11_alter rmX11_alter [.int (nI p), .int j, .int w] M0 (.int (-1)) (τ) := by
  refine am_of rfl rfl (ls := [some (.ref 2), some (.int (nI p)), some (.int j), some (.int w), none, none]) rfl ?_
  suffices HH : ∀ M, (CW τ α M) → (Kr M0 M) → AW mX11_alter rmX11_alter (fun r' M' => r' = (some (.int (-1))) ∧ (fun M2 => Kr M0 M2 ∧ ∃ α2, CW (τ) α2 M2) M') 0 [some (.ref 2), some (.int (nI p)), some (.int j), some (.int w), none, none] [] M 0 0 from HH M0 hC (Kr.rf _)
  intro M hC hR
  refine aw_aload0 0 dX11_alter_0 ?_
  refine aw_iload1 1 dX11_alter_1 ?_
  refine cr_v1 2 dX11_alter_2 (c_X11_pictureAt hC hp) ckV_RX11_106 cd_X11_pictureAt hC.xo.1 vc11 rfl rfl (Nat.le_of_ble_eq_true rfl) ⟨⟨by decide, by decide⟩, by decide, by decide⟩ rfl ?_
  refine aw_astore4 5 dX11_alter_5 rfl ?_
  refine aw_aload4 7 dX11_alter_7 ?_
  refine aw_ifnull 9 dX11_alter_9 ?_
  refine aw_aload4 12 dX11_alter_12 ?_
  refine aw_iload2 14 dX11_alter_14 ?_
  refine cr_v1 15 dX11_alter_15 (n_X3_has (hC.pc p hp).2.2.2 hj) ckV_RX11_124 cd_X3_has (hC.pc p hp).2.2.2.1 vc3 rfl rfl (Nat.le_of_ble_eq_true rfl) ⟨⟨by decide, by decide⟩, by decide, by decide⟩ rfl ?_
  rw [show (0 : Int32) = bi False from rfl]
  refine aw_ifne_b 18 23 dX11_alter_18 (by decide) (fun h18 => ?_) (fun h18 => ?_)
  · exact h18.elim
  · refine aw_icm1 21 dX11_alter_21 ?_
    refine aw_iret 22 dX11_alter_22 rfl (Nat.zero_le _) (Nat.zero_le _) ?_
    exact ⟨rfl, hR, α, hC⟩

set_option maxHeartbeats 4000000 in
set_option maxRecDepth 100000 in
theorem n3_X11_alter {M0 : Mem} {τ : TT} {α : AT} {p k : Nat} {w : Int32} (hC : CW τ α M0) (hp : p < nP τ) (hk : k < 16) (ht : ¬ thr τ p k) : CK mX11_alter rmX11_alter [.int (nI p), .int (nI k), .int w] M0 (.int (-1)) (τ) := by
  refine am_of rfl rfl (ls := [some (.ref 2), some (.int (nI p)), some (.int (nI k)), some (.int w), none, none]) rfl ?_
  suffices HH : ∀ M, (CW τ α M) → (Kr M0 M) → AW mX11_alter rmX11_alter (fun r' M' => r' = (some (.int (-1))) ∧ (fun M2 => Kr M0 M2 ∧ ∃ α2, CW (τ) α2 M2) M') 0 [some (.ref 2), some (.int (nI p)), some (.int (nI k)), some (.int w), none, none] [] M 0 0 from HH M0 hC (Kr.rf _)
  intro M hC hR
  refine aw_aload0 0 dX11_alter_0 ?_
  refine aw_iload1 1 dX11_alter_1 ?_
  refine cr_v1 2 dX11_alter_2 (c_X11_pictureAt hC hp) ckV_RX11_106 cd_X11_pictureAt hC.xo.1 vc11 rfl rfl (Nat.le_of_ble_eq_true rfl) ⟨⟨by decide, by decide⟩, by decide, by decide⟩ rfl ?_
  refine aw_astore4 5 dX11_alter_5 rfl ?_
  refine aw_aload4 7 dX11_alter_7 ?_
  refine aw_ifnull 9 dX11_alter_9 ?_
  refine aw_aload4 12 dX11_alter_12 ?_
  refine aw_iload2 14 dX11_alter_14 ?_
  refine cr_v1 15 dX11_alter_15 (c_X3_has (hC.pc p hp).2.2.2 hk) ckV_RX11_124 cd_X3_has (hC.pc p hp).2.2.2.1 vc3 rfl rfl (Nat.le_of_ble_eq_true rfl) ⟨⟨by decide, by decide⟩, by decide, by decide⟩ rfl ?_
  refine aw_ifne_b 18 23 dX11_alter_18 (by decide) (fun h18 => ?_) (fun h18 => ?_)
  · exact absurd (brG_out (u := hOf τ p) ht) h18
  · refine aw_icm1 21 dX11_alter_21 ?_
    refine aw_iret 22 dX11_alter_22 rfl (Nat.zero_le _) (Nat.zero_le _) ?_
    exact ⟨rfl, hR, α, hC⟩

set_option maxHeartbeats 4000000 in
set_option maxRecDepth 100000 in
theorem c_X11_alter {M0 : Mem} {τ : TT} {α : AT} {p k : Nat} {v : Int32} (hC : CW τ α M0) (hp : p < nP τ) (hk : k < 16) (ht : thr τ p k) : CK mX11_alter rmX11_alter [.int (nI p), .int (nI k), .int v] M0 (.int (if irg v 0 99 then τ 4 (16 * p + k) else -2)) (if irg v 0 99 then tu τ 4 (16 * p + k) v else τ) := by
  refine am_of rfl rfl (ls := [some (.ref 2), some (.int (nI p)), some (.int (nI k)), some (.int v), none, none]) rfl ?_
  suffices HH : ∀ M, (CW τ α M) → (Kr M0 M) → AW mX11_alter rmX11_alter (fun r' M' => r' = (some (.int (if irg v 0 99 then τ 4 (16 * p + k) else -2))) ∧ (fun M2 => Kr M0 M2 ∧ ∃ α2, CW (if irg v 0 99 then tu τ 4 (16 * p + k) v else τ) α2 M2) M') 0 [some (.ref 2), some (.int (nI p)), some (.int (nI k)), some (.int v), none, none] [] M 0 0 from HH M0 hC (Kr.rf _)
  intro M hC hR
  have h49 := (hC.pc p hp).1
  refine aw_aload0 0 dX11_alter_0 ?_
  refine aw_iload1 1 dX11_alter_1 ?_
  refine cr_v1 2 dX11_alter_2 (c_X11_pictureAt hC hp) ckV_RX11_106 cd_X11_pictureAt hC.xo.1 vc11 rfl rfl (Nat.le_of_ble_eq_true rfl) ⟨⟨by decide, by decide⟩, by decide, by decide⟩ rfl ?_
  refine aw_astore4 5 dX11_alter_5 rfl ?_
  refine aw_aload4 7 dX11_alter_7 ?_
  refine aw_ifnull 9 dX11_alter_9 ?_
  refine aw_aload4 12 dX11_alter_12 ?_
  refine aw_iload2 14 dX11_alter_14 ?_
  refine cr_v1 15 dX11_alter_15 (c_X3_has (hC.pc p hp).2.2.2 hk) ckV_RX11_124 cd_X3_has (hC.pc p hp).2.2.2.1 vc3 rfl rfl (Nat.le_of_ble_eq_true rfl) ⟨⟨by decide, by decide⟩, by decide, by decide⟩ rfl ?_
  refine aw_ifne_b 18 23 dX11_alter_18 (by decide) (fun h18 => ?_) (fun h18 => ?_)
  · refine aw_iload3 23 dX11_alter_23 ?_
    refine aw_ic0 24 dX11_alter_24 ?_
    refine aw_bipush 25 99 dX11_alter_25 (by decide) ?_
    refine cr_s1 27 dX11_alter_27 (cr_sd (c_isInZ (0) (99) (by decide) (by decide))) ckS_RX11_72 cd_X11_isIn rfl (Nat.le_of_ble_eq_true rfl) ⟨⟨by decide, by decide⟩, by decide, by decide⟩ rfl ?_
    refine aw_ifne_b 30 36 dX11_alter_30 (by decide) (fun h30 => ?_) (fun h30 => ?_)
    · rw [if_pos h30, if_pos h30]
      refine aw_aload4 36 dX11_alter_36 ?_
      refine aw_get 38 dX11_alter_38 ckF_RX11_127_3 (hC.pc p hp).2.2.2.1 (hC.pc p hp).2.2.2.2.2.1 ?_
      refine aw_iload2 41 dX11_alter_41 ?_
      refine ar_ld 42 (k) dX11_alter_42 (hC.pc p hp).2.2.2.2.2.2.2.2.2 rfl (show k < 16 by omega) (by decide) ?_
      rw [brG_in (u := hOf τ p) ht]
      refine aw_istore5 43 dX11_alter_43 rfl ?_
      refine aw_aload4 45 dX11_alter_45 ?_
      refine aw_get 47 dX11_alter_47 ckF_RX11_127_3 (hC.pc p hp).2.2.2.1 (hC.pc p hp).2.2.2.2.2.1 ?_
      refine aw_iload2 50 dX11_alter_50 ?_
      refine aw_iload3 51 dX11_alter_51 ?_
      refine ar_st 52 (k) dX11_alter_52 (hC.pc p hp).2.2.2.2.2.2.2.2.2 (by omega) rfl (show k < 16 by omega) (by decide) (fun M hA hd => ?_)
      replace hR := hR.trans (hd.kp.kr hC.m1 (fun b q => by omega))
      replace hC := hC.pix (τ' := tu τ 4 (16 * p + k) v) hp hd (hA.to (fun j hj => by
        by_cases e : j = k
        · subst e
          rw [upg_at, brG_in (u := hOf (tu τ 4 (16 * p + j) v) p) ht]
          show v = tu τ 4 (16 * p + j) v 4 (16 * p + j)
          rw [tu_at]
        · rw [upg_ne e]
          show _ = (if j % 4 < wd τ p ∧ j / 4 < hg τ p then tu τ 4 (16 * p + k) v 4 (16 * p + j) else -1)
          rw [tu_nk (by omega)]
          rfl)) (fun i hi => tu_ne hi) (fun q j hq hj => tu_nk (by omega)) (fun q hq j hj hj2 => by
        show irg (if 4 = 4 ∧ 16 * q + j = 16 * p + k then v else τ 4 (16 * q + j)) 0 99
        by_cases e : 16 * q + j = 16 * p + k
        · rw [if_pos ⟨rfl, e⟩]; exact h30
        · rw [if_neg (fun z => e z.2)]; exact hC.sq q hq j hj hj2)
      refine aw_iload5 53 dX11_alter_53 ?_
      refine aw_iret 55 dX11_alter_55 rfl (Nat.zero_le _) (Nat.zero_le _) ?_
      exact ⟨rfl, hR, α, hC⟩
    · rw [if_neg h30, if_neg h30]
      refine aw_bipush 33 (-2) dX11_alter_33 (by decide) ?_
      refine aw_iret 35 dX11_alter_35 rfl (Nat.zero_le _) (Nat.zero_le _) ?_
      exact ⟨rfl, hR, α, hC⟩
  · exact absurd (irg_nn (hC.sq p hp k hk ht)).2.1 (fun q => h18 (by rw [brG_in (u := hOf τ p) ht]; exact q))

def rmX11_hide : Room := { frames := 4, cells := 0, slots := 0, locals := 87 }
set_option maxHeartbeats 4000000 in
set_option maxRecDepth 100000 in
theorem n_X11_hide {M0 : Mem} {τ : TT} {α : AT} {v w : Int32} (hC : CW τ α M0) (hno : ¬ ir v (nP τ)) : CK mX11_hide rmX11_hide [.int v, .int w] M0 (.int (-1)) (τ) := by
  refine am_of rfl rfl (ls := [some (.ref 2), some (.int v), some (.int w), none]) rfl ?_
  suffices HH : ∀ M, (CW τ α M) → (Kr M0 M) → AW mX11_hide rmX11_hide (fun r' M' => r' = (some (.int (-1))) ∧ (fun M2 => Kr M0 M2 ∧ ∃ α2, CW (τ) α2 M2) M') 0 [some (.ref 2), some (.int v), some (.int w), none] [] M 0 0 from HH M0 hC (Kr.rf _)
  intro M hC hR
  refine aw_aload0 0 dX11_hide_0 ?_
  refine aw_iload1 1 dX11_hide_1 ?_
  refine cr_v1 2 dX11_hide_2 (n_X11_pictureAt hC hno) ckV_RX11_106 cd_X11_pictureAt hC.xo.1 vc11 rfl rfl (Nat.le_of_ble_eq_true rfl) ⟨⟨by decide, by decide⟩, by decide, by decide⟩ rfl ?_
  refine aw_astoreN3 5 dX11_hide_5 rfl ?_
  refine aw_aloadN3 6 dX11_hide_6 ?_
  refine aw_ifnonnullN 7 dX11_hide_7 ?_
  refine aw_icm1 10 dX11_hide_10 ?_
  refine aw_iret 11 dX11_hide_11 rfl (Nat.zero_le _) (Nat.zero_le _) ?_
  exact ⟨rfl, hR, α, hC⟩

set_option maxHeartbeats 4000000 in
set_option maxRecDepth 100000 in
theorem n2_X11_hide {M0 : Mem} {τ : TT} {α : AT} {p : Nat} {w : Int32} (hC : CW τ α M0) (hp : p < nP τ) (hm : ¬ irg w 0 255) : CK mX11_hide rmX11_hide [.int (nI p), .int w] M0 (.int (-2)) (τ) := by
  refine am_of rfl rfl (ls := [some (.ref 2), some (.int (nI p)), some (.int w), none]) rfl ?_
  suffices HH : ∀ M, (CW τ α M) → (Kr M0 M) → AW mX11_hide rmX11_hide (fun r' M' => r' = (some (.int (-2))) ∧ (fun M2 => Kr M0 M2 ∧ ∃ α2, CW (τ) α2 M2) M') 0 [some (.ref 2), some (.int (nI p)), some (.int w), none] [] M 0 0 from HH M0 hC (Kr.rf _)
  intro M hC hR
  refine aw_aload0 0 dX11_hide_0 ?_
  refine aw_iload1 1 dX11_hide_1 ?_
  refine cr_v1 2 dX11_hide_2 (c_X11_pictureAt hC hp) ckV_RX11_106 cd_X11_pictureAt hC.xo.1 vc11 rfl rfl (Nat.le_of_ble_eq_true rfl) ⟨⟨by decide, by decide⟩, by decide, by decide⟩ rfl ?_
  refine aw_astore3 5 dX11_hide_5 rfl ?_
  refine aw_aload3 6 dX11_hide_6 ?_
  refine aw_ifnonnull 7 12 dX11_hide_7 (by decide) ?_
  refine aw_iload2 12 dX11_hide_12 ?_
  refine cr_s1 13 dX11_hide_13 (cr_sd c_X11_isMark) ckS_RX11_242 cd_X11_isMark rfl (Nat.le_of_ble_eq_true rfl) ⟨⟨by decide, by decide⟩, by decide, by decide⟩ rfl ?_
  refine aw_ifeq_b 16 27 dX11_hide_16 (by decide) (fun h16 => ?_) (fun h16 => ?_)
  · refine aw_bipush 27 (-2) dX11_hide_27 (by decide) ?_
    refine aw_iret 29 dX11_hide_29 rfl (Nat.zero_le _) (Nat.zero_le _) ?_
    exact ⟨rfl, hR, α, hC⟩
  · exact absurd h16 hm

theorem hdT_4 {τ : TT} {p q j : Nat} {m : Int32} (hw : WP τ) (hp : p < nP τ) (hq : q ≠ p) (hj : j < 16) : ∀ k, k ≤ wd τ p * hg τ p → hdT τ p m k 4 (16 * q + j) = τ 4 (16 * q + j) := by
  intro k
  induction k with
  | zero => intro _; rfl
  | succ k ih =>
    intro hk
    have hpl := plc_lt (τ := τ) (p := p) (k := k) ⟨(hw.2 p hp).1.1, (hw.2 p hp).1.2.1⟩ (hw.2 p hp).2.2.1 (by omega)
    show (if soI (hdT τ p m k) p k m then hdT τ p m k else tu (hdT τ p m k) 4 (16 * p + plc τ p k) (flp (hdT τ p m k 4 (16 * p + plc τ p k)))) 4 (16 * q + j) = _
    by_cases c : soI (hdT τ p m k) p k m
    · rw [if_pos c]; exact ih (by omega)
    · rw [if_neg c, tu_nk (by omega)]; exact ih (by omega)

set_option maxHeartbeats 4000000 in
set_option maxRecDepth 100000 in
theorem c_X11_hide {M0 : Mem} {τ : TT} {α : AT} {p : Nat} {w : Int32} (hC : CW τ α M0) (hp : p < nP τ) (hm : irg w 0 255) : CK mX11_hide rmX11_hide [.int (nI p), .int w] M0 (.int (hdN τ p w (min 8 (wd τ p * hg τ p)))) (hdT τ p w (min 8 (wd τ p * hg τ p))) := by
  refine am_of rfl rfl (ls := [some (.ref 2), some (.int (nI p)), some (.int w), none]) rfl ?_
  suffices HH : ∀ M, (CW τ α M) → (Kr M0 M) → AW mX11_hide rmX11_hide (fun r' M' => r' = (some (.int (hdN τ p w (min 8 (wd τ p * hg τ p))))) ∧ (fun M2 => Kr M0 M2 ∧ ∃ α2, CW (hdT τ p w (min 8 (wd τ p * hg τ p))) α2 M2) M') 0 [some (.ref 2), some (.int (nI p)), some (.int w), none] [] M 0 0 from HH M0 hC (Kr.rf _)
  intro M hC hR
  have h49 := (hC.pc p hp).1
  have hie := imp_eq hC.wp hC.sq hp (m := w) 16 (by decide)
  rw [cn_mny hC.wp hp] at hie
  refine aw_aload0 0 dX11_hide_0 ?_
  refine aw_iload1 1 dX11_hide_1 ?_
  refine cr_v1 2 dX11_hide_2 (c_X11_pictureAt hC hp) ckV_RX11_106 cd_X11_pictureAt hC.xo.1 vc11 rfl rfl (Nat.le_of_ble_eq_true rfl) ⟨⟨by decide, by decide⟩, by decide, by decide⟩ rfl ?_
  refine aw_astore3 5 dX11_hide_5 rfl ?_
  refine aw_aload3 6 dX11_hide_6 ?_
  refine aw_ifnonnull 7 12 dX11_hide_7 (by decide) ?_
  refine aw_iload2 12 dX11_hide_12 ?_
  refine cr_s1 13 dX11_hide_13 (cr_sd c_X11_isMark) ckS_RX11_242 cd_X11_isMark rfl (Nat.le_of_ble_eq_true rfl) ⟨⟨by decide, by decide⟩, by decide, by decide⟩ rfl ?_
  refine aw_ifeq_b 16 27 dX11_hide_16 (by decide) (fun h16 => ?_) (fun h16 => ?_)
  · exact absurd hm h16
  · refine aw_aload3 19 dX11_hide_19 ?_
    refine aw_iload2 20 dX11_hide_20 ?_
    refine ap_v1 21 dX11_hide_21 (c_X3_imprint (hC.pc p hp).2.2.2 (by omega)) ckV_RX11_245 cd_X3_imprint (hC.pc p hp).2.2.2.1 vc3 rfl rfl (Nat.le_of_ble_eq_true rfl) ⟨⟨by decide, by decide⟩, by decide, by decide⟩ rfl (fun M hq => ?_)
    rw [hie.2.1]
    replace hR := hR.trans (hq.1.kp.kr hC.m1 (fun b q => by omega))
    replace hC := hC.pix (τ' := hdT τ p w (min 8 (wd τ p * hg τ p))) hp hq.1 (hq.2.to (fun j hj => hie.1 j hj)) (fun i hi => hdT_ne hi) (fun q j hq hj => hdT_4 hC.wp hp hq hj _ (by omega)) (hd_SQ hC.wp hC.sq hp _ (by omega))
    refine aw_goto 24 29 dX11_hide_24 (by decide) ?_
    refine aw_iret 29 dX11_hide_29 rfl (Nat.zero_le _) (Nat.zero_le _) ?_
    exact ⟨rfl, hR, α, hC⟩

def rmX11_lens : Room := { frames := 2, cells := 1, slots := 3, locals := 42 }
set_option maxHeartbeats 4000000 in
set_option maxRecDepth 100000 in
theorem n_X11_lens {M0 : Mem} {τ : TT} {α : AT} {v : Int32} (hC : CW τ α M0) (hv : ¬ irg v 1 9972) : CK mX11_lens rmX11_lens [.int v] M0 (.int (-2)) (τ) := by
  refine am_of rfl rfl (ls := [some (.ref 2), some (.int v)]) rfl ?_
  suffices HH : ∀ M, (CW τ α M) → (Kr M0 M) → AW mX11_lens rmX11_lens (fun r' M' => r' = (some (.int (-2))) ∧ (fun M2 => Kr M0 M2 ∧ ∃ α2, CW (τ) α2 M2) M') 0 [some (.ref 2), some (.int v)] [] M 0 0 from HH M0 hC (Kr.rf _)
  intro M hC hR
  refine aw_iload1 0 dX11_lens_0 ?_
  refine aw_ic1 1 dX11_lens_1 ?_
  refine aw_sipush 2 9972 dX11_lens_2 (by decide) ?_
  refine cr_s1 5 dX11_lens_5 (cr_sd (c_isInZ (1) (9972) (by decide) (by decide))) ckS_RX11_72 cd_X11_isIn rfl (Nat.le_of_ble_eq_true rfl) ⟨⟨by decide, by decide⟩, by decide, by decide⟩ rfl ?_
  refine aw_ifne_b 8 14 dX11_lens_8 (by decide) (fun h8 => ?_) (fun h8 => ?_)
  · exact absurd h8 hv
  · refine aw_bipush 11 (-2) dX11_lens_11 (by decide) ?_
    refine aw_iret 13 dX11_lens_13 rfl (Nat.zero_le _) (Nat.zero_le _) ?_
    exact ⟨rfl, hR, α, hC⟩

set_option maxHeartbeats 4000000 in
set_option maxRecDepth 100000 in
theorem n2_X11_lens {M0 : Mem} {τ : TT} {α : AT} {v : Int32} (hC : CW τ α M0) (hv : irg v 1 9972) (hf : nL τ = 6) : CK mX11_lens rmX11_lens [.int v] M0 (.int (-4)) (τ) := by
  refine am_of rfl rfl (ls := [some (.ref 2), some (.int v)]) rfl ?_
  suffices HH : ∀ M, (CW τ α M) → (Kr M0 M) → AW mX11_lens rmX11_lens (fun r' M' => r' = (some (.int (-4))) ∧ (fun M2 => Kr M0 M2 ∧ ∃ α2, CW (τ) α2 M2) M') 0 [some (.ref 2), some (.int v)] [] M 0 0 from HH M0 hC (Kr.rf _)
  intro M hC hR
  have h6 := hC.wl.1
  refine aw_iload1 0 dX11_lens_0 ?_
  refine aw_ic1 1 dX11_lens_1 ?_
  refine aw_sipush 2 9972 dX11_lens_2 (by decide) ?_
  refine cr_s1 5 dX11_lens_5 (cr_sd (c_isInZ (1) (9972) (by decide) (by decide))) ckS_RX11_72 cd_X11_isIn rfl (Nat.le_of_ble_eq_true rfl) ⟨⟨by decide, by decide⟩, by decide, by decide⟩ rfl ?_
  refine aw_ifne_b 8 14 dX11_lens_8 (by decide) (fun h8 => ?_) (fun h8 => ?_)
  · refine aw_aload0 14 dX11_lens_14 ?_
    refine aw_get 15 dX11_lens_15 ckF_RX11_131_11 hC.xo.1 (hC.xo.2.2.2.2.2.2.2.2.2.2.1.trans (congrArg Value.int hC.wl.2)) ?_
    refine aw_bipush 18 6 dX11_lens_18 (by decide) ?_
    refine aw_icmp_ltN 20 26 (nL τ) (6) dX11_lens_20 (by decide) rfl rfl (by omega) (by omega) (fun h20 => ?_) (fun h20 => ?_)
    · exact absurd h20 (by omega)
    · refine aw_bipush 23 (-4) dX11_lens_23 (by decide) ?_
      refine aw_iret 25 dX11_lens_25 rfl (Nat.zero_le _) (Nat.zero_le _) ?_
      exact ⟨rfl, hR, α, hC⟩
  · exact absurd hv h8

set_option maxHeartbeats 4000000 in
set_option maxRecDepth 100000 in
theorem c_X11_lens {M0 : Mem} {τ : TT} {α : AT} {v : Int32} (hC : CW τ α M0) (hv : irg v 1 9972) (hf : ¬ nL τ = 6) : CK mX11_lens rmX11_lens [.int v] M0 (.int (nI (nL τ))) (tu (tu (tu τ 14 (nL τ) v) 15 (nL τ) 1000) 13 0 (nI (nL τ + 1))) := by
  refine am_of rfl rfl (ls := [some (.ref 2), some (.int v)]) rfl ?_
  suffices HH : ∀ M, (CW τ α M) → (Kr M0 M) → AW mX11_lens rmX11_lens (fun r' M' => r' = (some (.int (nI (nL τ)))) ∧ (fun M2 => Kr M0 M2 ∧ ∃ α2, CW (tu (tu (tu τ 14 (nL τ) v) 15 (nL τ) 1000) 13 0 (nI (nL τ + 1))) α2 M2) M') 0 [some (.ref 2), some (.int v)] [] M 0 0 from HH M0 hC (Kr.rf _)
  intro M hC hR
  have h6 := hC.wl.1
  have hm := hC.m1
  obtain ⟨A, hA⟩ : ∃ A, M.1 = A := ⟨_, rfl⟩
  have hCb := hC
  have hk0 : Kp SC M M := Kp.rf _ _
  refine aw_iload1 0 dX11_lens_0 ?_
  refine aw_ic1 1 dX11_lens_1 ?_
  refine aw_sipush 2 9972 dX11_lens_2 (by decide) ?_
  refine cr_s1 5 dX11_lens_5 (cr_sd (c_isInZ (1) (9972) (by decide) (by decide))) ckS_RX11_72 cd_X11_isIn rfl (Nat.le_of_ble_eq_true rfl) ⟨⟨by decide, by decide⟩, by decide, by decide⟩ rfl ?_
  refine aw_ifne_b 8 14 dX11_lens_8 (by decide) (fun h8 => ?_) (fun h8 => ?_)
  · refine aw_aload0 14 dX11_lens_14 ?_
    refine aw_get 15 dX11_lens_15 ckF_RX11_131_11 hC.xo.1 (hC.xo.2.2.2.2.2.2.2.2.2.2.1.trans (congrArg Value.int hC.wl.2)) ?_
    refine aw_bipush 18 6 dX11_lens_18 (by decide) ?_
    refine aw_icmp_ltN 20 26 (nL τ) (6) dX11_lens_20 (by decide) rfl rfl (by omega) (by omega) (fun h20 => ?_) (fun h20 => ?_)
    · refine aw_aload0 26 dX11_lens_26 ?_
      refine aw_get 27 dX11_lens_27 ckF_RX11_19_11 hC.xo.1 hC.xo.2.2.1 ?_
      refine aw_aload0 30 dX11_lens_30 ?_
      refine aw_get 31 dX11_lens_31 ckF_RX11_131_11 hC.xo.1 (hC.xo.2.2.2.2.2.2.2.2.2.2.1.trans (congrArg Value.int hC.wl.2)) ?_
      refine na_obj 34 3 (A) dX11_lens_34 ckN_RX11_17 rfl hA (by decide) (by decide) (fun M hd => ?_)
      have hk := hd.2.1
      replace hR := hR.trans ((hd.kp (S := fun _ => False) hA).kr hC.m1 (fun b q => q.elim))
      have hM1 := hd.1
      obtain ⟨hk1, hC⟩ := hCb.hin hk0 hC hd hA
      clear hd
      refine aw_dup 37 dX11_lens_37 rfl ?_
      refine aw_aload0 38 dX11_lens_38 ?_
      refine aw_get 39 dX11_lens_39 ckF_RX11_131_11 hC.xo.1 (hC.xo.2.2.2.2.2.2.2.2.2.2.1.trans (congrArg Value.int hC.wl.2)) ?_
      refine aw_iload1 42 dX11_lens_42 ?_
      refine ap_i 43 dX11_lens_43 (c_X1_init hk) ckI_RX11_134 cd_X1_init rfl rfl (Nat.le_of_ble_eq_true rfl) ⟨⟨by decide, by decide⟩, by decide, by decide⟩ (fun M hq => ?_)
      replace hR := hR.trans (hq.1.kp.kr hC.m1 (fun b q => by omega))
      obtain ⟨hk2, hC⟩ := hCb.hi hk1 hC hq.1 (by omega)
      replace hk := (congrFun hq.1.2.1 _).trans hk
      replace hM1 := hq.1.1.trans hM1
      refine aa_st 46 (nL τ) dX11_lens_46 hC.ax.2.2.1 (by decide) (by decide) hk rfl (show nL τ < 6 by omega) (by decide) (fun M hd => ?_)
      have hsl := hd.2.2.1
      have z := hd.toWd.2.2 A (by omega)
      have q0 := (congrFun z 0).trans hq.2.2.1
      have q1 := (congrFun z 1).trans hq.2.2.2
      have q2 := (congrFun z 2).trans hq.2.1
      replace hk := (congrFun hd.2.1 _).trans hk
      replace hM1 := hd.1.trans hM1
      replace hR := hR.trans (hd.toWd.kp.kr hC.m1 (fun b q => by omega))
      replace hC := hC.ar4 hd
      clear hd
      refine aw_aload0 47 dX11_lens_47 ?_
      refine aw_dup 48 dX11_lens_48 rfl ?_
      refine aw_get 49 dX11_lens_49 ckF_RX11_131_11 hC.xo.1 (hC.xo.2.2.2.2.2.2.2.2.2.2.1.trans (congrArg Value.int hC.wl.2)) ?_
      refine aw_dup_x1 52 dX11_lens_52 rfl rfl ?_
      refine aw_ic1 53 dX11_lens_53 ?_
      refine aw_iaddN 54 (nL τ) (1) dX11_lens_54 rfl rfl ?_
      refine fp_put 55 dX11_lens_55 ckF_RX11_131_11 ckP11_9 hC.xo.1 rfl rfl (fun M hd => ?_)
      replace hR := hR.trans (hd.toWd.kp.kr hC.m1 (fun b q => by omega))
      replace hC := hC.nle (by omega) (by omega) hsl hk q0 q1 q2 hd
      refine aw_iret 58 dX11_lens_58 rfl (by decide) (by decide) ?_
      exact ⟨rfl, hR, _, hC⟩
    · exact absurd h20 (by omega)
  · exact absurd hv h8

def rmX11_look : Room := { frames := 2, cells := 1, slots := 3, locals := 43 }
set_option maxHeartbeats 4000000 in
set_option maxRecDepth 100000 in
theorem n_X11_look {M0 : Mem} {τ : TT} {α : AT} {v w u : Int32} (hC : CW τ α M0) (hno : ¬ ir v (nP τ)) : CK mX11_look rmX11_look [.int v, .int w, .int u] M0 (.int (-1)) (τ) := by
  refine am_of rfl rfl (ls := [some (.ref 2), some (.int v), some (.int w), some (.int u), none]) rfl ?_
  suffices HH : ∀ M, (CW τ α M) → (Kr M0 M) → AW mX11_look rmX11_look (fun r' M' => r' = (some (.int (-1))) ∧ (fun M2 => Kr M0 M2 ∧ ∃ α2, CW (τ) α2 M2) M') 0 [some (.ref 2), some (.int v), some (.int w), some (.int u), none] [] M 0 0 from HH M0 hC (Kr.rf _)
  intro M hC hR
  refine aw_aload0 0 dX11_look_0 ?_
  refine aw_iload1 1 dX11_look_1 ?_
  refine cr_v1 2 dX11_look_2 (n_X11_pictureAt hC hno) ckV_RX11_106 cd_X11_pictureAt hC.xo.1 vc11 rfl rfl (Nat.le_of_ble_eq_true rfl) ⟨⟨by decide, by decide⟩, by decide, by decide⟩ rfl ?_
  refine aw_astoreN4 5 dX11_look_5 rfl ?_
  refine aw_aloadN4 7 dX11_look_7 ?_
  refine aw_ifnonnullN 9 dX11_look_9 ?_
  refine aw_icm1 12 dX11_look_12 ?_
  refine aw_iret 13 dX11_look_13 rfl (Nat.zero_le _) (Nat.zero_le _) ?_
  exact ⟨rfl, hR, α, hC⟩

set_option maxHeartbeats 4000000 in
set_option maxRecDepth 100000 in
theorem n2_X11_look {M0 : Mem} {τ : TT} {α : AT} {p : Nat} {h w : Int32} (hC : CW τ α M0) (hp : p < nP τ) (hv : ¬ (irg h 1 9 ∧ irg w 0 99)) : CK mX11_look rmX11_look [.int (nI p), .int h, .int w] M0 (.int (-2)) (τ) := by
  refine am_of rfl rfl (ls := [some (.ref 2), some (.int (nI p)), some (.int h), some (.int w), none]) rfl ?_
  suffices HH : ∀ M, (CW τ α M) → (Kr M0 M) → AW mX11_look rmX11_look (fun r' M' => r' = (some (.int (-2))) ∧ (fun M2 => Kr M0 M2 ∧ ∃ α2, CW (τ) α2 M2) M') 0 [some (.ref 2), some (.int (nI p)), some (.int h), some (.int w), none] [] M 0 0 from HH M0 hC (Kr.rf _)
  intro M hC hR
  refine aw_aload0 0 dX11_look_0 ?_
  refine aw_iload1 1 dX11_look_1 ?_
  refine cr_v1 2 dX11_look_2 (c_X11_pictureAt hC hp) ckV_RX11_106 cd_X11_pictureAt hC.xo.1 vc11 rfl rfl (Nat.le_of_ble_eq_true rfl) ⟨⟨by decide, by decide⟩, by decide, by decide⟩ rfl ?_
  refine aw_astore4 5 dX11_look_5 rfl ?_
  refine aw_aload4 7 dX11_look_7 ?_
  refine aw_ifnonnull 9 14 dX11_look_9 (by decide) ?_
  refine aw_iload2 14 dX11_look_14 ?_
  refine aw_ic1 15 dX11_look_15 ?_
  refine aw_bipush 16 9 dX11_look_16 (by decide) ?_
  refine cr_s1 18 dX11_look_18 (cr_sd (c_isInZ (1) (9) (by decide) (by decide))) ckS_RX11_72 cd_X11_isIn rfl (Nat.le_of_ble_eq_true rfl) ⟨⟨by decide, by decide⟩, by decide, by decide⟩ rfl ?_
  refine aw_ifeq_b 21 34 dX11_look_21 (by decide) (fun h21 => ?_) (fun h21 => ?_)
  · refine aw_bipush 34 (-2) dX11_look_34 (by decide) ?_
    refine aw_iret 36 dX11_look_36 rfl (Nat.zero_le _) (Nat.zero_le _) ?_
    exact ⟨rfl, hR, α, hC⟩
  · refine aw_iload3 24 dX11_look_24 ?_
    refine aw_ic0 25 dX11_look_25 ?_
    refine aw_bipush 26 99 dX11_look_26 (by decide) ?_
    refine cr_s1 28 dX11_look_28 (cr_sd (c_isInZ (0) (99) (by decide) (by decide))) ckS_RX11_72 cd_X11_isIn rfl (Nat.le_of_ble_eq_true rfl) ⟨⟨by decide, by decide⟩, by decide, by decide⟩ rfl ?_
    refine aw_ifne_b 31 37 dX11_look_31 (by decide) (fun h31 => ?_) (fun h31 => ?_)
    · exact absurd ⟨h21, h31⟩ hv
    · refine aw_bipush 34 (-2) dX11_look_34 (by decide) ?_
      refine aw_iret 36 dX11_look_36 rfl (Nat.zero_le _) (Nat.zero_le _) ?_
      exact ⟨rfl, hR, α, hC⟩

set_option maxHeartbeats 4000000 in
set_option maxRecDepth 100000 in
theorem n3_X11_look {M0 : Mem} {τ : TT} {α : AT} {p : Nat} {h w : Int32} (hC : CW τ α M0) (hp : p < nP τ) (hv : irg h 1 9 ∧ irg w 0 99) (hf : nK τ = 9) : CK mX11_look rmX11_look [.int (nI p), .int h, .int w] M0 (.int (-4)) (τ) := by
  refine am_of rfl rfl (ls := [some (.ref 2), some (.int (nI p)), some (.int h), some (.int w), none]) rfl ?_
  suffices HH : ∀ M, (CW τ α M) → (Kr M0 M) → AW mX11_look rmX11_look (fun r' M' => r' = (some (.int (-4))) ∧ (fun M2 => Kr M0 M2 ∧ ∃ α2, CW (τ) α2 M2) M') 0 [some (.ref 2), some (.int (nI p)), some (.int h), some (.int w), none] [] M 0 0 from HH M0 hC (Kr.rf _)
  intro M hC hR
  have h9 := hC.wk.1.1
  refine aw_aload0 0 dX11_look_0 ?_
  refine aw_iload1 1 dX11_look_1 ?_
  refine cr_v1 2 dX11_look_2 (c_X11_pictureAt hC hp) ckV_RX11_106 cd_X11_pictureAt hC.xo.1 vc11 rfl rfl (Nat.le_of_ble_eq_true rfl) ⟨⟨by decide, by decide⟩, by decide, by decide⟩ rfl ?_
  refine aw_astore4 5 dX11_look_5 rfl ?_
  refine aw_aload4 7 dX11_look_7 ?_
  refine aw_ifnonnull 9 14 dX11_look_9 (by decide) ?_
  refine aw_iload2 14 dX11_look_14 ?_
  refine aw_ic1 15 dX11_look_15 ?_
  refine aw_bipush 16 9 dX11_look_16 (by decide) ?_
  refine cr_s1 18 dX11_look_18 (cr_sd (c_isInZ (1) (9) (by decide) (by decide))) ckS_RX11_72 cd_X11_isIn rfl (Nat.le_of_ble_eq_true rfl) ⟨⟨by decide, by decide⟩, by decide, by decide⟩ rfl ?_
  refine aw_ifeq_b 21 34 dX11_look_21 (by decide) (fun h21 => ?_) (fun h21 => ?_)
  · exact absurd hv.1 h21
  · refine aw_iload3 24 dX11_look_24 ?_
    refine aw_ic0 25 dX11_look_25 ?_
    refine aw_bipush 26 99 dX11_look_26 (by decide) ?_
    refine cr_s1 28 dX11_look_28 (cr_sd (c_isInZ (0) (99) (by decide) (by decide))) ckS_RX11_72 cd_X11_isIn rfl (Nat.le_of_ble_eq_true rfl) ⟨⟨by decide, by decide⟩, by decide, by decide⟩ rfl ?_
    refine aw_ifne_b 31 37 dX11_look_31 (by decide) (fun h31 => ?_) (fun h31 => ?_)
    · refine aw_aload0 37 dX11_look_37 ?_
      refine aw_get 38 dX11_look_38 ckF_RX11_271_11 hC.xo.1 (hC.xo.2.2.2.2.2.2.2.2.2.2.2.1.trans (congrArg Value.int hC.wk.1.2)) ?_
      refine aw_bipush 41 9 dX11_look_41 (by decide) ?_
      refine aw_icmp_ltN 43 49 (nK τ) (9) dX11_look_43 (by decide) rfl rfl (by omega) (by omega) (fun h43 => ?_) (fun h43 => ?_)
      · exact absurd h43 (by omega)
      · refine aw_bipush 46 (-4) dX11_look_46 (by decide) ?_
        refine aw_iret 48 dX11_look_48 rfl (Nat.zero_le _) (Nat.zero_le _) ?_
        exact ⟨rfl, hR, α, hC⟩
    · exact absurd hv.2 h31

set_option maxHeartbeats 4000000 in
set_option maxRecDepth 100000 in
theorem c_X11_look {M0 : Mem} {τ : TT} {α : AT} {p : Nat} {h w : Int32} (hC : CW τ α M0) (hp : p < nP τ) (hv : irg h 1 9 ∧ irg w 0 99) (hf : ¬ nK τ = 9) : CK mX11_look rmX11_look [.int (nI p), .int h, .int w] M0 (.int (nI (nK τ))) (tLk τ p h w) := by
  refine am_of rfl rfl (ls := [some (.ref 2), some (.int (nI p)), some (.int h), some (.int w), none]) rfl ?_
  suffices HH : ∀ M, (CW τ α M) → (Kr M0 M) → AW mX11_look rmX11_look (fun r' M' => r' = (some (.int (nI (nK τ)))) ∧ (fun M2 => Kr M0 M2 ∧ ∃ α2, CW (tLk τ p h w) α2 M2) M') 0 [some (.ref 2), some (.int (nI p)), some (.int h), some (.int w), none] [] M 0 0 from HH M0 hC (Kr.rf _)
  intro M hC hR
  have h9 := hC.wk.1.1
  have hm := hC.m1
  obtain ⟨A, hA⟩ : ∃ A, M.1 = A := ⟨_, rfl⟩
  have hCb := hC
  have hk0 : Kp SC M M := Kp.rf _ _
  refine aw_aload0 0 dX11_look_0 ?_
  refine aw_iload1 1 dX11_look_1 ?_
  refine cr_v1 2 dX11_look_2 (c_X11_pictureAt hC hp) ckV_RX11_106 cd_X11_pictureAt hC.xo.1 vc11 rfl rfl (Nat.le_of_ble_eq_true rfl) ⟨⟨by decide, by decide⟩, by decide, by decide⟩ rfl ?_
  refine aw_astore4 5 dX11_look_5 rfl ?_
  refine aw_aload4 7 dX11_look_7 ?_
  refine aw_ifnonnull 9 14 dX11_look_9 (by decide) ?_
  refine aw_iload2 14 dX11_look_14 ?_
  refine aw_ic1 15 dX11_look_15 ?_
  refine aw_bipush 16 9 dX11_look_16 (by decide) ?_
  refine cr_s1 18 dX11_look_18 (cr_sd (c_isInZ (1) (9) (by decide) (by decide))) ckS_RX11_72 cd_X11_isIn rfl (Nat.le_of_ble_eq_true rfl) ⟨⟨by decide, by decide⟩, by decide, by decide⟩ rfl ?_
  refine aw_ifeq_b 21 34 dX11_look_21 (by decide) (fun h21 => ?_) (fun h21 => ?_)
  · exact absurd hv.1 h21
  · refine aw_iload3 24 dX11_look_24 ?_
    refine aw_ic0 25 dX11_look_25 ?_
    refine aw_bipush 26 99 dX11_look_26 (by decide) ?_
    refine cr_s1 28 dX11_look_28 (cr_sd (c_isInZ (0) (99) (by decide) (by decide))) ckS_RX11_72 cd_X11_isIn rfl (Nat.le_of_ble_eq_true rfl) ⟨⟨by decide, by decide⟩, by decide, by decide⟩ rfl ?_
    refine aw_ifne_b 31 37 dX11_look_31 (by decide) (fun h31 => ?_) (fun h31 => ?_)
    · refine aw_aload0 37 dX11_look_37 ?_
      refine aw_get 38 dX11_look_38 ckF_RX11_271_11 hC.xo.1 (hC.xo.2.2.2.2.2.2.2.2.2.2.2.1.trans (congrArg Value.int hC.wk.1.2)) ?_
      refine aw_bipush 41 9 dX11_look_41 (by decide) ?_
      refine aw_icmp_ltN 43 49 (nK τ) (9) dX11_look_43 (by decide) rfl rfl (by omega) (by omega) (fun h43 => ?_) (fun h43 => ?_)
      · refine aw_aload0 49 dX11_look_49 ?_
        refine aw_get 50 dX11_look_50 ckF_RX11_25_11 hC.xo.1 hC.xo.2.2.2.1 ?_
        refine aw_aload0 53 dX11_look_53 ?_
        refine aw_get 54 dX11_look_54 ckF_RX11_271_11 hC.xo.1 (hC.xo.2.2.2.2.2.2.2.2.2.2.2.1.trans (congrArg Value.int hC.wk.1.2)) ?_
        refine na_obj 57 3 (A) dX11_look_57 ckN_RX11_23 rfl hA (by decide) (by decide) (fun M hd => ?_)
        have hk := hd.2.1
        replace hR := hR.trans ((hd.kp (S := fun _ => False) hA).kr hC.m1 (fun b q => q.elim))
        have hM1 := hd.1
        obtain ⟨hk1, hC⟩ := hCb.hin hk0 hC hd hA
        clear hd
        refine aw_dup 60 dX11_look_60 rfl ?_
        refine aw_aload4 61 dX11_look_61 ?_
        refine aw_iload2 63 dX11_look_63 ?_
        refine aw_iload3 64 dX11_look_64 ?_
        refine ap_i 65 dX11_look_65 (c_X2_init hk) ckI_RX11_274 cd_X2_init rfl rfl (Nat.le_of_ble_eq_true rfl) ⟨⟨by decide, by decide⟩, by decide, by decide⟩ (fun M hq => ?_)
        replace hR := hR.trans (hq.1.kp.kr hC.m1 (fun b q => by omega))
        obtain ⟨hk2, hC⟩ := hCb.hi hk1 hC hq.1 (by omega)
        replace hk := (congrFun hq.1.2.1 _).trans hk
        replace hM1 := hq.1.1.trans hM1
        refine aa_st 68 (nK τ) dX11_look_68 hC.ax.2.2.2.1 (by decide) (by decide) hk rfl (show nK τ < 9 by omega) (by decide) (fun M hd => ?_)
        have hsl := hd.2.2.1
        have z := hd.toWd.2.2 A (by omega)
        have q0 := (congrFun z 0).trans hq.2.1
        have q1 := (congrFun z 1).trans hq.2.2.1
        have q2 := (congrFun z 2).trans hq.2.2.2
        replace hk := (congrFun hd.2.1 _).trans hk
        replace hM1 := hd.1.trans hM1
        replace hR := hR.trans (hd.toWd.kp.kr hC.m1 (fun b q => by omega))
        replace hC := hC.ar5 hd
        clear hd
        refine aw_aload0 69 dX11_look_69 ?_
        refine aw_dup 70 dX11_look_70 rfl ?_
        refine aw_get 71 dX11_look_71 ckF_RX11_271_11 hC.xo.1 (hC.xo.2.2.2.2.2.2.2.2.2.2.2.1.trans (congrArg Value.int hC.wk.1.2)) ?_
        refine aw_dup_x1 74 dX11_look_74 rfl rfl ?_
        refine aw_ic1 75 dX11_look_75 ?_
        refine aw_iaddN 76 (nK τ) (1) dX11_look_76 rfl rfl ?_
        refine fp_put 77 dX11_look_77 ckF_RX11_271_11 ckP11_10 hC.xo.1 rfl rfl (fun M hd => ?_)
        replace hR := hR.trans (hd.toWd.kp.kr hC.m1 (fun b q => by omega))
        replace hC := hC.nlo (by omega) (by omega) hp hv.1 hv.2 hsl hk q0 q1 q2 hd
        refine aw_iret 80 dX11_look_80 rfl (by decide) (by decide) ?_
        exact ⟨rfl, hR, _, hC⟩
      · exact absurd h43 (by omega)
    · exact absurd hv.2 h31

def rmX11_tear : Room := { frames := 2, cells := 0, slots := 0, locals := 43 }
set_option maxHeartbeats 4000000 in
set_option maxRecDepth 100000 in
theorem n_X11_tear {M0 : Mem} {τ : TT} {α : AT} {v : Int32} (hC : CW τ α M0) (hno : ¬ ir v (nP τ)) : CK mX11_tear rmX11_tear [.int v] M0 (.int (-1)) (τ) := by
  refine am_of rfl rfl (ls := [some (.ref 2), some (.int v), none]) rfl ?_
  suffices HH : ∀ M, (CW τ α M) → (Kr M0 M) → AW mX11_tear rmX11_tear (fun r' M' => r' = (some (.int (-1))) ∧ (fun M2 => Kr M0 M2 ∧ ∃ α2, CW (τ) α2 M2) M') 0 [some (.ref 2), some (.int v), none] [] M 0 0 from HH M0 hC (Kr.rf _)
  intro M hC hR
  refine aw_aload0 0 dX11_tear_0 ?_
  refine aw_iload1 1 dX11_tear_1 ?_
  refine cr_v1 2 dX11_tear_2 (n_X11_pictureAt hC hno) ckV_RX11_106 cd_X11_pictureAt hC.xo.1 vc11 rfl rfl (Nat.le_of_ble_eq_true rfl) ⟨⟨by decide, by decide⟩, by decide, by decide⟩ rfl ?_
  refine aw_astoreN2 5 dX11_tear_5 rfl ?_
  refine aw_aloadN2 6 dX11_tear_6 ?_
  refine aw_ifnonnullN 7 dX11_tear_7 ?_
  refine aw_icm1 10 dX11_tear_10 ?_
  refine aw_iret 11 dX11_tear_11 rfl (Nat.zero_le _) (Nat.zero_le _) ?_
  exact ⟨rfl, hR, α, hC⟩

theorem CW.ter {τ : TT} {α : AT} {M M' : Mem} {p : Nat} (h : CW τ α M) (hp : p < nP τ) (f : Wf (α 0 p) 4 .null M M') : CW (tu τ 16 p (-9)) α M' := by
  have s16 : tu τ 16 p (-9) 16 p = -9 := tu_at
  refine h.lnw (τ' := tu τ 16 p (-9)) (α' := α) hp f ?_ ?_ (fun i _ h16 _ _ _ _ _ _ => tu_ne h16) (fun q hq => ⟨tu_nk hq, rfl, rfl, rfl, rfl, rfl, fun _ _ => rfl⟩) ⟨rfl, rfl, rfl, fun _ _ => ⟨rfl, rfl⟩⟩ (Or.inl s16)
  · unfold pap; rw [s16]; rfl
  · intro q
    rw [s16] at q
    exact absurd (by decide) q
theorem CW.te0 {τ : TT} {α : AT} {M : Mem} {p : Nat} (h : CW τ α M) (hp : p < nP τ) (hno : τ 16 p < 0) : CW (tu τ 16 p (-9)) α M := by
  have e : τ 16 p = -9 := by
    rcases h.wn p hp with q | q
    · exact q
    · rcases q.1 with z | z | z <;> exact absurd hno (by rw [z]; decide)
  rw [← e, tu_same]
  exact h

set_option maxHeartbeats 4000000 in
set_option maxRecDepth 100000 in
theorem n2_X11_tear {M0 : Mem} {τ : TT} {α : AT} {p : Nat} (hC : CW τ α M0) (hp : p < nP τ) (hno : τ 16 p < 0) : CK mX11_tear rmX11_tear [.int (nI p)] M0 (.int 0) (tu τ 16 p (-9)) := by
  refine am_of rfl rfl (ls := [some (.ref 2), some (.int (nI p)), none]) rfl ?_
  suffices HH : ∀ M, (CW τ α M) → (Kr M0 M) → AW mX11_tear rmX11_tear (fun r' M' => r' = (some (.int 0)) ∧ (fun M2 => Kr M0 M2 ∧ ∃ α2, CW (tu τ 16 p (-9)) α2 M2) M') 0 [some (.ref 2), some (.int (nI p)), none] [] M 0 0 from HH M0 hC (Kr.rf _)
  intro M hC hR
  refine aw_aload0 0 dX11_tear_0 ?_
  refine aw_iload1 1 dX11_tear_1 ?_
  refine cr_v1 2 dX11_tear_2 (c_X11_pictureAt hC hp) ckV_RX11_106 cd_X11_pictureAt hC.xo.1 vc11 rfl rfl (Nat.le_of_ble_eq_true rfl) ⟨⟨by decide, by decide⟩, by decide, by decide⟩ rfl ?_
  refine aw_astore2 5 dX11_tear_5 rfl ?_
  refine aw_aload2 6 dX11_tear_6 ?_
  refine aw_ifnonnull 7 12 dX11_tear_7 (by decide) ?_
  refine aw_aload2 12 dX11_tear_12 ?_
  refine aw_get 13 dX11_tear_13 ckF_RX11_147_3 (hC.pc p hp).2.2.2.1 ((hC.pc p hp).2.2.2.2.2.2.2.2.1.trans (if_pos hno)) ?_
  refine aw_ifnonnullN 16 dX11_tear_16 ?_
  refine aw_ic0 19 dX11_tear_19 ?_
  refine aw_iret 20 dX11_tear_20 rfl (Nat.zero_le _) (Nat.zero_le _) ?_
  exact ⟨rfl, hR, α, hC.te0 hp hno⟩

set_option maxHeartbeats 4000000 in
set_option maxRecDepth 100000 in
theorem c_X11_tear {M0 : Mem} {τ : TT} {α : AT} {p : Nat} (hC : CW τ α M0) (hp : p < nP τ) (hno : ¬ τ 16 p < 0) : CK mX11_tear rmX11_tear [.int (nI p)] M0 (.int 1) (tu τ 16 p (-9)) := by
  refine am_of rfl rfl (ls := [some (.ref 2), some (.int (nI p)), none]) rfl ?_
  suffices HH : ∀ M, (CW τ α M) → (Kr M0 M) → AW mX11_tear rmX11_tear (fun r' M' => r' = (some (.int 1)) ∧ (fun M2 => Kr M0 M2 ∧ ∃ α2, CW (tu τ 16 p (-9)) α2 M2) M') 0 [some (.ref 2), some (.int (nI p)), none] [] M 0 0 from HH M0 hC (Kr.rf _)
  intro M hC hR
  have h49 := (hC.pc p hp).1
  refine aw_aload0 0 dX11_tear_0 ?_
  refine aw_iload1 1 dX11_tear_1 ?_
  refine cr_v1 2 dX11_tear_2 (c_X11_pictureAt hC hp) ckV_RX11_106 cd_X11_pictureAt hC.xo.1 vc11 rfl rfl (Nat.le_of_ble_eq_true rfl) ⟨⟨by decide, by decide⟩, by decide, by decide⟩ rfl ?_
  refine aw_astore2 5 dX11_tear_5 rfl ?_
  refine aw_aload2 6 dX11_tear_6 ?_
  refine aw_ifnonnull 7 12 dX11_tear_7 (by decide) ?_
  refine aw_aload2 12 dX11_tear_12 ?_
  refine aw_get 13 dX11_tear_13 ckF_RX11_147_3 (hC.pc p hp).2.2.2.1 ((hC.pc p hp).2.2.2.2.2.2.2.2.1.trans (if_neg hno)) ?_
  refine aw_ifnonnull 16 21 dX11_tear_16 (by decide) ?_
  refine aw_aload2 21 dX11_tear_21 ?_
  refine aw_null 22 dX11_tear_22 ?_
  refine fp_put 23 dX11_tear_23 ckF_RX11_147_3 ckP3_4 (hC.pc p hp).2.2.2.1 rfl rfl (fun M hd => ?_)
  replace hR := hR.trans (hd.toWd.kp.kr hC.m1 (fun b q => by omega))
  replace hC := hC.ter hp hd
  refine aw_ic1 26 dX11_tear_26 ?_
  refine aw_iret 27 dX11_tear_27 rfl (Nat.zero_le _) (Nat.zero_le _) ?_
  exact ⟨rfl, hR, α, hC⟩

