/-! the class: pictures made (gen/clsH.py) -/
theorem Kp.fa {S : Nat → Prop} {A : Nat} {Mb M M' : Mem} (k : Kp S Mb M) (h : Fa A M M') (hA : Mb.1 = A) (h1 : A ≤ M'.1) : Kp S Mb M' := ⟨by rw [hA]; exact h1, fun b q => ((h b (by omega)).1).trans (k.2.1 b q), fun b q z => ((h b (by omega)).2).trans (k.2.2 b q z)⟩
theorem Kp.frs2 {S T : Nat → Prop} {Mb M M' : Mem} (k : Kp S Mb M) (f : FrS T M M') (hT : ∀ b, T b → Mb.1 ≤ b) : Kp S Mb M' := ⟨by rw [f.1]; exact k.1, fun b q => by rw [f.2.1]; exact k.2.1 b q, fun b q z => by rw [f.2.2 b (fun y => by have := hT b y; omega)]; exact k.2.2 b q z⟩
theorem bi_in (P : Prop) (i1 i2 : Decidable P) : @bi P i1 = @bi P i2 := by cases Subsingleton.elim i1 i2; rfl
theorem c_hold {M : Mem} {s L i n : Nat} {hr lane : Int32} {c : Nat → Int32} (hV : SV M s hr lane (nI L) c) (hL : L ≤ 60) (hn : i + n ≤ L) : CR mX5_holdsSquares rmX5_holdsSquares [.ref s, .int (nI i), .int (nI n)] M (some (.int (bi (∀ k, k < n → irg (c (i + k)) 0 99)))) := by
  have q := c_X5_holdsSquares hV hL hn
  rw [bi_in _ _ (Classical.propDecidable _)]
  exact q
/-- behind addPicture -/
def NPT (τ : TT) (M0 : Mem) (A : Nat) (M : Mem) : Prop := M.1 = A + 2 ∧ Kp (fun b => b = 2 ∨ b = 3) M0 M ∧ PV M A (nI (nP τ)) 0 0 (fun _ => -1) .null ∧ M.2.2 3 (nP τ) = .ref A ∧ (∀ q, q < nP τ → M.2.2 3 q = M0.2.2 3 q) ∧ XO (tu τ 1 0 (nI (nP τ + 1))) M

def rmX11_addPicture : Room := { frames := 2, cells := 2, slots := 21, locals := 44 }
set_option maxHeartbeats 4000000 in
set_option maxRecDepth 100000 in
theorem c_X11_addPicture {M0 : Mem} {τ : TT} {α : AT} {A : Nat} (hC : CW τ α M0) (hA : M0.1 = A) (hn : nP τ < 12) : AP mX11_addPicture rmX11_addPicture [.ref 2] M0 (some (.ref A)) (NPT τ M0 A) := by
  have hC0 := hC
  have hA0 := hA
  have h49 := hC.m1
  refine am_of rfl rfl (ls := [some (.ref 2), none]) rfl ?_
  suffices HH : ∀ M, (CW τ α M) → (Kp (fun _ => False) M0 M) → (M.1 = A) → AW mX11_addPicture rmX11_addPicture (fun r' M' => r' = (some (.ref A)) ∧ (NPT τ M0 A) M') 0 [some (.ref 2), none] [] M 0 0 from HH M0 hC (Kp.rf _ _) hA
  intro M hC hk0 hA
  have hm := hC.m1
  refine na_obj 0 5 (A) dX11_addPicture_0 ckN_RX11_11 rfl hA (by decide) (by decide) (fun M hd => ?_)
  have hkd := hd.2.1
  have hM1 := hd.1
  have q2 : M.2.2 A 2 = .int 0 := by rw [hd.2.2.1]; rfl
  have q3 : M.2.2 A 3 = .int 0 := by rw [hd.2.2.1]; rfl
  have q4 : M.2.2 A 4 = .null := by rw [hd.2.2.1]; rfl
  replace hk0 := hk0.trans (hd.kp hA)
  replace hC := hC.kpF (hd.kp hA)
  clear hd
  refine aw_dup 3 dX11_addPicture_3 rfl ?_
  refine aw_aload0 4 dX11_addPicture_4 ?_
  refine aw_get 5 dX11_addPicture_5 ckF_RX11_92_11 hC.xo.1 (hC.xo.2.2.2.2.2.2.2.2.2.1.trans (congrArg Value.int hC.wp.1.2)) ?_
  refine ap_i 8 dX11_addPicture_8 (c_X3_init hM1 hkd q2 q3 q4 (by omega)) ckI_RX11_324 cd_X3_init rfl rfl (Nat.le_of_ble_eq_true rfl) ⟨⟨by decide, by decide⟩, by decide, by decide⟩ (fun M hq => ?_)
  replace hk0 := hk0.fa hq.2.1 hA0 (by rw [hq.1]; omega)
  replace hC := hC0.kpF hk0
  have hP := hq.2.2
  have hM2 := hq.1
  clear hq
  refine aw_astore1 11 dX11_addPicture_11 rfl ?_
  refine aw_aload0 12 dX11_addPicture_12 ?_
  refine aw_get 13 dX11_addPicture_13 ckF_RX11_13_11 hC.xo.1 hC.xo.2.1 ?_
  refine aw_aload0 16 dX11_addPicture_16 ?_
  refine aw_get 17 dX11_addPicture_17 ckF_RX11_92_11 hC.xo.1 (hC.xo.2.2.2.2.2.2.2.2.2.1.trans (congrArg Value.int hC.wp.1.2)) ?_
  refine aw_aload1 20 dX11_addPicture_20 ?_
  refine aa_st 21 (nP τ) dX11_addPicture_21 hC.ax.2.1 (by decide) (by decide) hP.1 rfl (show nP τ < 12 by omega) (by decide) (fun M hd => ?_)
  have hsl := hd.2.2.1
  have hso : ∀ q, q < nP τ → M.2.2 3 q = M0.2.2 3 q := fun q hq => (hd.2.2.2 3 q (by omega)).trans (congrFun (hk0.2.2 3 (by omega) (fun z => z)) q)
  replace hP := hP.frs (S := fun b => b = 3) (hd.toWd.toFrS rfl) (by omega) (by omega)
  have hk1 : Kp (fun b => b = 2 ∨ b = 3) M0 M := (hk0.mono (fun b q => q.elim)).trans (hd.toWd.kpS (Or.inr rfl))
  replace hM2 := hd.1.trans hM2
  replace hC := hC.ar3 hd
  clear hd
  refine aw_aload0 22 dX11_addPicture_22 ?_
  refine aw_dup 23 dX11_addPicture_23 rfl ?_
  refine aw_get 24 dX11_addPicture_24 ckF_RX11_92_11 hC.xo.1 (hC.xo.2.2.2.2.2.2.2.2.2.1.trans (congrArg Value.int hC.wp.1.2)) ?_
  refine aw_ic1 27 dX11_addPicture_27 ?_
  refine aw_iaddN 28 (nP τ) (1) dX11_addPicture_28 rfl rfl ?_
  refine fp_put 29 dX11_addPicture_29 ckF_RX11_92_11 ckP11_8 hC.xo.1 rfl rfl (fun M hd => ?_)
  replace hk1 := hk1.trans (hd.toWd.kpS (Or.inl rfl))
  replace hP := hP.frs (S := fun b => b = 2) (hd.toWd.toFrS rfl) (by omega) (by omega)
  replace hsl := (congrFun (hd.toWd.2.2 3 (by decide)) _).trans hsl
  replace hso : ∀ q, q < nP τ → M.2.2 3 q = M0.2.2 3 q := fun q hq => (congrFun (hd.toWd.2.2 3 (by decide)) _).trans (hso q hq)
  replace hM2 := hd.1.trans hM2
  have hx := hC.xo.npi hd
  refine aw_aload1 32 dX11_addPicture_32 ?_
  refine aw_aret 33 dX11_addPicture_33 rfl (Or.inl ⟨_, rfl⟩) (by decide) (by decide) ?_
  exact ⟨rfl, hM2, hk1, hP, hsl, hso, hx⟩

section
variable {τ τ' : TT} {α : AT} {M Mb : Mem}
theorem CW.npc {A w h : Nat} {g : Nat → Int32} (hC : CW τ α Mb) (hn : nP τ < 12) (hA : Mb.1 = A) (hM : A + 2 ≤ M.1) (k : Kp (fun b => b = 2 ∨ b = 3) Mb M) (hP : PV M A (nI (nP τ)) (nI w) (nI h) g .null) (hw : 1 ≤ w ∧ w ≤ 4) (hh : 1 ≤ h ∧ h ≤ 4) (h3 : M.2.2 3 (nP τ) = .ref A) (h3o : ∀ q, q < nP τ → M.2.2 3 q = Mb.2.2 3 q) (hx : XO (tu τ 1 0 (nI (nP τ + 1))) M)
    (e1 : τ' 1 0 = nI (nP τ + 1)) (e2 : τ' 2 (nP τ) = nI w) (e3 : τ' 3 (nP τ) = nI h) (o2 : ∀ q, q ≠ nP τ → τ' 2 q = τ 2 q) (o3 : ∀ q, q ≠ nP τ → τ' 3 q = τ 3 q) (o4 : ∀ q j, q ≠ nP τ → j < 16 → τ' 4 (16 * q + j) = τ 4 (16 * q + j)) (g4 : ∀ j, j < 16 → g j = brG (hOf τ' (nP τ)) j) (hs : ∀ j, j < 16 → j % 4 < w → j / 4 < h → irg (τ' 4 (16 * nP τ + j)) 0 99) (he : ∀ i, i ≠ 1 → i ≠ 2 → i ≠ 3 → i ≠ 4 → τ' i = τ i) : CW τ' (au α 0 (nP τ) A) M := by
  have hm := hC.m1
  have e := fun i (h1 : i ≠ 1 ∧ i ≠ 2 ∧ i ≠ 3 ∧ i ≠ 4) => he i h1.1 h1.2.1 h1.2.2.1 h1.2.2.2
  have hc : nP τ' = nP τ + 1 := by show (τ' 1 0).toNatClampNeg = _; rw [e1]; exact nI_clamp (by omega)
  have hwd : wd τ' (nP τ) = w := by unfold wd; rw [e2]; exact nI_clamp (by omega)
  have hhg : hg τ' (nP τ) = h := by unfold hg; rw [e3]; exact nI_clamp (by omega)
  have wdo : ∀ q, q ≠ nP τ → wd τ' q = wd τ q := fun q hq => by unfold wd; rw [o2 q hq]
  have hgo : ∀ q, q ≠ nP τ → hg τ' q = hg τ q := fun q hq => by unfold hg; rw [o3 q hq]
  have hun := hC.un (nP τ) (Nat.le_refl _) hn
  obtain ⟨g1, g2, g3, g4', g5, g6, g7, g8, g9⟩ := hC.gd
  refine hC.mk2 k (fun b q => by omega) ⟨⟨⟨by rw [hc]; omega, by rw [hc]; exact e1⟩, ?_⟩, g2.of (e 13 (by decide)), g3.of (e 28 (by decide)), ?_, ?_, ?_, by rw [e 23 (by decide)]; exact g7, g8.of (e 24 (by decide)) (e 26 (by decide)) (e 27 (by decide)), ?_⟩ ?_ (e 28 (by decide)) (e 29 (by decide)) (e 30 (by decide)) (e 32 (by decide)) ?_ ?_ ?_ ?_
  · intro q hq
    rw [hc] at hq
    by_cases c : q = nP τ
    · subst c; rw [hwd, hhg]; exact ⟨⟨hw.1, hw.2, e2⟩, hh.1, hh.2, e3⟩
    · rw [wdo q c, hgo q c, o2 q c, o3 q c]; exact g1.2 q (by omega)
  · intro q hq
    rw [hc] at hq
    have hnl : nL τ' = nL τ := by unfold nL; rw [e 13 (by decide)]
    by_cases c : q = nP τ
    · subst c; exact Or.inl (by rw [e 16 (by decide)]; exact hun)
    · have := g4' q (by omega)
      unfold lnOK at this ⊢
      rw [hnl, e 16 (by decide), e 17 (by decide), e 18 (by decide), e 20 (by decide), e 21 (by decide), e 22 (by decide)]
      exact this
  · have hnk : nK τ' = nK τ := by unfold nK; rw [e 24 (by decide)]
    refine ⟨by rw [hnk, e 24 (by decide)]; exact g5.1, fun j hj => ?_⟩
    rw [hnk] at hj
    obtain ⟨q, q1, q2⟩ := g5.2 j hj
    exact ⟨q, by rw [hc]; omega, by rw [e 25 (by decide)]; exact q2⟩
  · intro q hq j hj ht
    rw [hc] at hq
    by_cases c : q = nP τ
    · subst c
      unfold thr at ht
      rw [hwd, hhg] at ht
      exact hs j hj ht.1 ht.2
    · unfold thr at ht
      rw [wdo q c, hgo q c] at ht
      rw [o4 q j c hj]
      exact g6 q (by omega) j hj ht
  · intro q q1 q2
    rw [hc] at q1
    rw [e 16 (by decide)]
    exact g9 q (by omega) q2
  · unfold XO
    rw [e 13 (by decide), e 24 (by decide), e 23 (by decide), e 0 (by decide), e1]
    exact hx
  · intro q hq
    rw [hc] at hq
    by_cases c : q = nP τ
    · subst c
      unfold PCp
      rw [au_at, e2, e3]
      have ep : pap τ' (au α 0 (nP τ) A) (nP τ) = .null := by unfold pap; rw [e 16 (by decide), hun]; rfl
      rw [ep]
      exact ⟨by omega, by omega, h3, hP.to g4⟩
    · have cc := hC.pc q (by omega)
      refine PCp.cg (τ := τ) (α := α) ⟨cc.1, Nat.lt_of_lt_of_le cc.2.1 k.1, (h3o q (by omega)).trans cc.2.2.1, cc.2.2.2.kp k cc.2.1 (by have := cc.1; omega) (by have := cc.1; omega)⟩ (o2 q c) (o3 q c) (fun j hj => o4 q j c hj) (by rw [e 16 (by decide)]) (au_ne (by omega)) (au_ne (by omega))
  · intro l hl
    rw [show nL τ' = nL τ by unfold nL; rw [e 13 (by decide)]] at hl
    exact ((hC.lc l hl).kp k hm (by omega) (by have := (hC.lc l hl).1; omega)).cg (by rw [e 14 (by decide)]) (by rw [e 15 (by decide)]) (au_ne (by omega))
  · intro q hq hno
    rw [hc] at hq
    rw [e 16 (by decide)] at hno
    have c : q ≠ nP τ := fun z => hno (by rw [z, hun]; decide)
    have cc := hC.nc q (by omega) hno
    have hl := hC.ln (p := q) (by omega) hno
    exact (cc.kp k (by have := cc.1; omega) (fun z => by have := z.2.2.2.2.2.2.2.1; omega)).cg (by rw [e 16 (by decide)]) (by rw [e 17 (by decide)]) (by rw [e 18 (by decide)]) (by rw [e 19 (by decide)]) (by rw [e 20 (by decide)]) (by rw [e 21 (by decide)]) (fun j _ => by rw [e 22 (by decide)]) (au_ne (by omega)) (au_ne (by omega)) (au_ne (by omega)) (fun z => au_ne (by have := (hl.2.2.1 z).1; omega))
  · intro j hj
    rw [show nK τ' = nK τ by unfold nK; rw [e 24 (by decide)]] at hj
    obtain ⟨q, q1, q2⟩ := g5.2 j hj
    have hd : dgt (τ 25) j = q := dgt_n q2 (by omega)
    exact ((hC.kc j hj).kp k hm (by omega) (by have := (hC.kc j hj).1; omega)).cg (by rw [e 25 (by decide)]) (by rw [e 26 (by decide)]) (by rw [e 27 (by decide)]) (au_ne (by omega)) (au_ne (by rw [hd]; omega))
theorem flG_c {g c : Nat → Int32} {w : Nat} (hw : 1 ≤ w ∧ w ≤ 4) : ∀ n b, flG g w c n b = if b % 4 < w ∧ (b / 4) * w + b % 4 < n then c ((b / 4) * w + b % 4) else g b := by
  intro n
  induction n with
  | zero => intro b; rw [if_neg (by omega)]; rfl
  | succ n ih =>
    intro b
    show (if b = n % w + 4 * (n / w) then c n else flG g w c n b) = _
    rw [ih b]
    rcases (show w = 1 ∨ w = 2 ∨ w = 3 ∨ w = 4 by omega) with rfl | rfl | rfl | rfl
    · by_cases e : b = n % 1 + 4 * (n / 1)
      · rw [if_pos e, if_pos (by omega)]
        congr 1
        omega
      · rw [if_neg e]
        by_cases c : b % 4 < 1 ∧ (b / 4) * 1 + b % 4 < n
        · rw [if_pos c, if_pos (by omega)]
        · rw [if_neg c, if_neg (by omega)]
    · by_cases e : b = n % 2 + 4 * (n / 2)
      · rw [if_pos e, if_pos (by omega)]
        congr 1
        omega
      · rw [if_neg e]
        by_cases c : b % 4 < 2 ∧ (b / 4) * 2 + b % 4 < n
        · rw [if_pos c, if_pos (by omega)]
        · rw [if_neg c, if_neg (by omega)]
    · by_cases e : b = n % 3 + 4 * (n / 3)
      · rw [if_pos e, if_pos (by omega)]
        congr 1
        omega
      · rw [if_neg e]
        by_cases c : b % 4 < 3 ∧ (b / 4) * 3 + b % 4 < n
        · rw [if_pos c, if_pos (by omega)]
        · rw [if_neg c, if_neg (by omega)]
    · by_cases e : b = n % 4 + 4 * (n / 4)
      · rw [if_pos e, if_pos (by omega)]
        congr 1
        omega
      · rw [if_neg e]
        by_cases c : b % 4 < 4 ∧ (b / 4) * 4 + b % 4 < n
        · rw [if_pos c, if_pos (by omega)]
        · rw [if_neg c, if_neg (by omega)]
theorem pcT_c {n w d : Nat} (hw : 1 ≤ w ∧ w ≤ 4) : ∀ x b, pcT τ n w d x 4 (16 * n + b) = if b % 4 < w ∧ (b / 4) * w + b % 4 < x then τ 30 (d + ((b / 4) * w + b % 4)) else τ 4 (16 * n + b) := by
  intro x
  induction x with
  | zero => intro b; rw [if_neg (by omega)]; rfl
  | succ x ih =>
    intro b
    show (if 4 = 4 ∧ 16 * n + b = 16 * n + x % w + 4 * (x / w) then τ 30 (d + x) else pcT τ n w d x 4 (16 * n + b)) = _
    rw [ih b]
    rcases (show w = 1 ∨ w = 2 ∨ w = 3 ∨ w = 4 by omega) with rfl | rfl | rfl | rfl
    · by_cases e : 4 = 4 ∧ 16 * n + b = 16 * n + x % 1 + 4 * (x / 1)
      · rw [if_pos e, if_pos (by omega)]
        congr 1
        omega
      · rw [if_neg e]
        by_cases c : b % 4 < 1 ∧ (b / 4) * 1 + b % 4 < x
        · rw [if_pos c, if_pos (by omega)]
        · rw [if_neg c, if_neg (by omega)]
    · by_cases e : 4 = 4 ∧ 16 * n + b = 16 * n + x % 2 + 4 * (x / 2)
      · rw [if_pos e, if_pos (by omega)]
        congr 1
        omega
      · rw [if_neg e]
        by_cases c : b % 4 < 2 ∧ (b / 4) * 2 + b % 4 < x
        · rw [if_pos c, if_pos (by omega)]
        · rw [if_neg c, if_neg (by omega)]
    · by_cases e : 4 = 4 ∧ 16 * n + b = 16 * n + x % 3 + 4 * (x / 3)
      · rw [if_pos e, if_pos (by omega)]
        congr 1
        omega
      · rw [if_neg e]
        by_cases c : b % 4 < 3 ∧ (b / 4) * 3 + b % 4 < x
        · rw [if_pos c, if_pos (by omega)]
        · rw [if_neg c, if_neg (by omega)]
    · by_cases e : 4 = 4 ∧ 16 * n + b = 16 * n + x % 4 + 4 * (x / 4)
      · rw [if_pos e, if_pos (by omega)]
        congr 1
        omega
      · rw [if_neg e]
        by_cases c : b % 4 < 4 ∧ (b / 4) * 4 + b % 4 < x
        · rw [if_pos c, if_pos (by omega)]
        · rw [if_neg c, if_neg (by omega)]
theorem pcT_o {n w h d : Nat} (hw : 1 ≤ w ∧ w ≤ 4) (hh : h ≤ 4) {q j : Nat} (hq : q ≠ n) (hj : j < 16) : ∀ x, x ≤ w * h → pcT τ n w d x 4 (16 * q + j) = τ 4 (16 * q + j) := by
  intro x
  induction x with
  | zero => intro _; rfl
  | succ x ih =>
    intro hx
    have := dpl_lt (w := w) (h := h) (k := x) hw.1 hw.2 hh (by omega)
    show tu (pcT τ n w d x) 4 (16 * n + x % w + 4 * (x / w)) (τ 30 (d + x)) 4 (16 * q + j) = _
    rw [tu_nk (by omega)]
    exact ih (by omega)
theorem ix_lt {w h j : Nat} (h1 : j % 4 < w) (h2 : j / 4 < h) : (j / 4) * w + j % 4 < w * h := by
  have e1 : (j / 4 + 1) * w ≤ h * w := Nat.mul_le_mul_right w h2
  rw [Nat.succ_mul, Nat.mul_comm h w] at e1
  omega
theorem ix_ge {w h j : Nat} (h1 : j % 4 < w) (h2 : ¬ j / 4 < h) : ¬ (j / 4) * w + j % 4 < w * h := by
  have e1 : h * w ≤ (j / 4) * w := Nat.mul_le_mul_right w (by omega)
  rw [Nat.mul_comm h w] at e1
  omega
/-- a picture of a sheet's cells -/
theorem CW.pcw {A w h k i : Nat} {c : Nat → Int32} (hC : CW (tu τ 0 0 0) α Mb) (hn : nP τ < 12) (hA : Mb.1 = A) (hM : A + 2 ≤ M.1) (kk : Kp (fun b => b = 2 ∨ b = 3) Mb M) (hP : PV M A (nI (nP τ)) (nI w) (nI h) (flG (fun _ => -1) w (fun x => c (i + x)) (w * h)) .null) (hw : 1 ≤ w ∧ w ≤ 4) (hh : 1 ≤ h ∧ h ≤ 4) (h3 : M.2.2 3 (nP τ) = .ref A) (h3o : ∀ q, q < nP τ → M.2.2 3 q = Mb.2.2 3 q) (hx : XO (tu (tu τ 0 0 0) 1 0 (nI (nP τ + 1))) M) (hi : i + w * h ≤ ssz τ k) (hc : ∀ j, j < ssz τ k → c j = τ 30 (60 * k + j)) (hall : ∀ y, y < w * h → irg (τ 30 (60 * k + i + y)) 0 99) : CW (tPc τ w h k i) (au α 0 (nP τ) A) M := by
  have r4 : ∀ j, tPc τ w h k i 4 (16 * nP τ + j) = if j % 4 < w ∧ (j / 4) * w + j % 4 < w * h then τ 30 (60 * k + i + ((j / 4) * w + j % 4)) else τ 4 (16 * nP τ + j) := fun j => by
    show pcT (tu (tu τ 2 (nP τ) (nI w)) 3 (nP τ) (nI h)) (nP τ) w (60 * k + i) (w * h) 4 (16 * nP τ + j) = _
    rw [pcT_c hw]
    rfl
  have p2 : tPc τ w h k i 2 = tu τ 2 (nP τ) (nI w) 2 := by
    show pcT (tu (tu τ 2 (nP τ) (nI w)) 3 (nP τ) (nI h)) (nP τ) w (60 * k + i) (w * h) 2 = _
    rw [pcT_ne (by decide)]; rfl
  have p3 : tPc τ w h k i 3 = tu (tu τ 2 (nP τ) (nI w)) 3 (nP τ) (nI h) 3 := by
    show pcT (tu (tu τ 2 (nP τ) (nI w)) 3 (nP τ) (nI h)) (nP τ) w (60 * k + i) (w * h) 3 = _
    rw [pcT_ne (by decide)]
  have e2 : tPc τ w h k i 2 (nP τ) = nI w := by rw [p2]; exact tu_at
  have e3 : tPc τ w h k i 3 (nP τ) = nI h := by rw [p3]; exact tu_at
  have hwd : wd (tPc τ w h k i) (nP τ) = w := by unfold wd; rw [e2]; exact nI_clamp (by omega)
  have hhg : hg (tPc τ w h k i) (nP τ) = h := by unfold hg; rw [e3]; exact nI_clamp (by omega)
  refine hC.npc (τ := tu τ 0 0 0) (τ' := tPc τ w h k i) hn hA hM kk hP hw hh h3 h3o hx rfl e2 e3 (fun q hq => by rw [p2]; exact tu_nk hq) (fun q hq => by rw [p3]; exact tu_nk hq) (fun q j hq hj => ?_) (fun j hj => ?_) (fun j hj h1 h2 => ?_) (fun z z1 z2 z3 z4 => tu0_cg (by rw [tu_ne z1, pcT_ne z4, tu_ne z3, tu_ne z2]))
  · have hq : q ≠ nP τ := hq
    show pcT (tu (tu τ 2 (nP τ) (nI w)) 3 (nP τ) (nI h)) (nP τ) w (60 * k + i) (w * h) 4 (16 * q + j) = _
    rw [pcT_o hw hh.2 hq hj (w * h) (Nat.le_refl _)]
    rfl
  · rw [flG_c hw]
    show _ = (if j % 4 < wd (tPc τ w h k i) (nP τ) ∧ j / 4 < hg (tPc τ w h k i) (nP τ) then tPc τ w h k i 4 (16 * nP τ + j) else -1)
    rw [hwd, hhg, r4]
    by_cases c1 : j % 4 < w
    · by_cases c2 : j / 4 < h
      · have hl := ix_lt c1 c2
        rw [if_pos ⟨c1, hl⟩, if_pos ⟨c1, c2⟩, if_pos ⟨c1, hl⟩, hc _ (by omega)]
        congr 1
        omega
      · rw [if_neg (fun q => ix_ge c1 c2 q.2), if_neg (fun q => c2 q.2)]
    · rw [if_neg (fun q => c1 q.1), if_neg (fun q => c1 q.1)]
  · rw [show nP (tu τ 0 0 0) = nP τ from rfl, r4, if_pos ⟨h1, ix_lt h1 h2⟩]
    exact hall _ (ix_lt h1 h2)
/-- a picture of acts done -/
theorem CW.acw {A : Nat} {u : HS} (hC : CW (tu τ 0 0 0) α Mb) (hu : HSk u) (hn : nP τ < 12) (hA : Mb.1 = A) (hM : A + 2 ≤ M.1) (kk : Kp (fun b => b = 2 ∨ b = 3) Mb M) (hP : PV M A (nI (nP τ)) (nI u.2.1) (nI u.2.2) (brG u) .null) (h3 : M.2.2 3 (nP τ) = .ref A) (h3o : ∀ q, q < nP τ → M.2.2 3 q = Mb.2.2 3 q) (hx : XO (tu (tu τ 0 0 0) 1 0 (nI (nP τ + 1))) M) : CW (tAc τ u) (au α 0 (nP τ) A) M := by
  have b1 := hu.1
  have b2 := hu.2.1
  have r4 : ∀ j, j < 16 → tAc τ u 4 (16 * nP τ + j) = u.1 j := fun j hj => by
    show ov (tu (tu τ 2 (nP τ) (nI u.2.1)) 3 (nP τ) (nI u.2.2)) 4 (16 * nP τ) (16 * nP τ + 16) (fun b => u.1 (b - 16 * nP τ)) 4 (16 * nP τ + j) = _
    rw [ov_in (by omega), show 16 * nP τ + j - 16 * nP τ = j by omega]
  have e2 : tAc τ u 2 (nP τ) = nI u.2.1 := by show tu τ 2 (nP τ) (nI u.2.1) 2 (nP τ) = _; exact tu_at
  have e3 : tAc τ u 3 (nP τ) = nI u.2.2 := by show tu (tu τ 2 (nP τ) (nI u.2.1)) 3 (nP τ) (nI u.2.2) 3 (nP τ) = _; exact tu_at
  have hwd : wd (tAc τ u) (nP τ) = u.2.1 := by unfold wd; rw [e2]; exact nI_clamp (by omega)
  have hhg : hg (tAc τ u) (nP τ) = u.2.2 := by unfold hg; rw [e3]; exact nI_clamp (by omega)
  refine hC.npc (τ := tu τ 0 0 0) (τ' := tAc τ u) hn hA hM kk hP b1 b2 h3 h3o hx rfl e2 e3 (fun q hq => by show tu τ 2 (nP τ) (nI u.2.1) 2 q = _; exact tu_nk hq) (fun q hq => by show tu (tu τ 2 (nP τ) (nI u.2.1)) 3 (nP τ) (nI u.2.2) 3 q = _; exact tu_nk hq) (fun q j hq hj => ?_) (fun j hj => ?_) (fun j hj h1 h2 => ?_) (fun z z1 z2 z3 z4 => tu0_cg (by rw [tu_ne z1, ov_ne z4, tu_ne z3, tu_ne z2]))
  · have hq : q ≠ nP τ := hq
    show ov (tu (tu τ 2 (nP τ) (nI u.2.1)) 3 (nP τ) (nI u.2.2)) 4 (16 * nP τ) (16 * nP τ + 16) (fun b => u.1 (b - 16 * nP τ)) 4 (16 * q + j) = _
    rw [ov_out (by omega)]
    rfl
  · show _ = (if j % 4 < wd (tAc τ u) (nP τ) ∧ j / 4 < hg (tAc τ u) (nP τ) then tAc τ u 4 (16 * nP τ + j) else -1)
    rw [hwd, hhg, r4 j hj]
    rfl
  · rw [show nP (tu τ 0 0 0) = nP τ from rfl, r4 j hj]
    exact hu.2.2 j hj h1 h2
end

def rmX11_picture : Room := { frames := 3, cells := 2, slots := 21, locals := 68 }
set_option maxHeartbeats 4000000 in
set_option maxRecDepth 100000 in
theorem n_X11_picture {M0 : Mem} {τ : TT} {α : AT} {w h v l i : Int32} (hC : CW τ α M0) (hno : ¬ irg v 0 3) : CK mX11_picture rmX11_picture [.int w, .int h, .int v, .int l, .int i] M0 (.int (-1)) (tu τ 0 0 0) := by
  refine am_of rfl rfl (ls := [some (.ref 2), some (.int w), some (.int h), some (.int v), some (.int l), some (.int i), none, none, none]) rfl ?_
  suffices HH : ∀ M, (CW τ α M) → (Kr M0 M) → AW mX11_picture rmX11_picture (fun r' M' => r' = (some (.int (-1))) ∧ (fun M2 => Kr M0 M2 ∧ ∃ α2, CW (tu τ 0 0 0) α2 M2) M') 0 [some (.ref 2), some (.int w), some (.int h), some (.int v), some (.int l), some (.int i), none, none, none] [] M 0 0 from HH M0 hC (Kr.rf _)
  intro M hC hR
  refine aw_aload0 0 dX11_picture_0 ?_
  refine aw_ic0 1 dX11_picture_1 ?_
  refine fp_put 2 dX11_picture_2 ckF_RX11_64_11 ckP11_12 hC.xo.1 rfl rfl (fun M hd => ?_)
  replace hR := hR.trans (hd.toWd.kp.kr hC.m1 (fun b q => by omega))
  replace hC := hC.flt hd
  clear hd
  refine aw_aload0 5 dX11_picture_5 ?_
  refine aw_iload3 6 dX11_picture_6 ?_
  refine cr_v1 7 dX11_picture_7 (n_X11_sheetAt hC hno) ckV_RX11_68 cd_X11_sheetAt hC.xo.1 vc11 rfl rfl (Nat.le_of_ble_eq_true rfl) ⟨⟨by decide, by decide⟩, by decide, by decide⟩ rfl ?_
  refine aw_astoreN6 10 dX11_picture_10 rfl ?_
  refine aw_aloadN6 12 dX11_picture_12 ?_
  refine aw_ifnonnullN 14 dX11_picture_14 ?_
  refine aw_icm1 17 dX11_picture_17 ?_
  refine aw_iret 18 dX11_picture_18 rfl (Nat.zero_le _) (Nat.zero_le _) ?_
  exact ⟨rfl, hR, α, hC⟩

set_option maxHeartbeats 4000000 in
set_option maxRecDepth 100000 in
theorem n2_X11_picture {M0 : Mem} {τ : TT} {α : AT} {k : Nat} {w h l i : Int32} (hC : CW τ α M0) (hk : k < 4) (hno : ¬ irg w 1 4 ∨ ¬ irg h 1 4 ∨ ¬ irg l 0 2) : CK mX11_picture rmX11_picture [.int w, .int h, .int (nI k), .int l, .int i] M0 (.int (-2)) (tu τ 0 0 0) := by
  refine am_of rfl rfl (ls := [some (.ref 2), some (.int w), some (.int h), some (.int (nI k)), some (.int l), some (.int i), none, none, none]) rfl ?_
  suffices HH : ∀ M, (CW τ α M) → (Kr M0 M) → AW mX11_picture rmX11_picture (fun r' M' => r' = (some (.int (-2))) ∧ (fun M2 => Kr M0 M2 ∧ ∃ α2, CW (tu τ 0 0 0) α2 M2) M') 0 [some (.ref 2), some (.int w), some (.int h), some (.int (nI k)), some (.int l), some (.int i), none, none, none] [] M 0 0 from HH M0 hC (Kr.rf _)
  intro M hC hR
  refine aw_aload0 0 dX11_picture_0 ?_
  refine aw_ic0 1 dX11_picture_1 ?_
  refine fp_put 2 dX11_picture_2 ckF_RX11_64_11 ckP11_12 hC.xo.1 rfl rfl (fun M hd => ?_)
  replace hR := hR.trans (hd.toWd.kp.kr hC.m1 (fun b q => by omega))
  replace hC := hC.flt hd
  clear hd
  refine aw_aload0 5 dX11_picture_5 ?_
  refine aw_iload3 6 dX11_picture_6 ?_
  refine cr_v1 7 dX11_picture_7 (c_X11_sheetAt hC hk) ckV_RX11_68 cd_X11_sheetAt hC.xo.1 vc11 rfl rfl (Nat.le_of_ble_eq_true rfl) ⟨⟨by decide, by decide⟩, by decide, by decide⟩ rfl ?_
  refine aw_astore6 10 dX11_picture_10 rfl ?_
  refine aw_aload6 12 dX11_picture_12 ?_
  refine aw_ifnonnull 14 19 dX11_picture_14 (by decide) ?_
  refine aw_iload1 19 dX11_picture_19 ?_
  refine aw_ic1 20 dX11_picture_20 ?_
  refine aw_ic4 21 dX11_picture_21 ?_
  refine cr_s1 22 dX11_picture_22 (cr_sd (c_isInZ (1) (4) (by decide) (by decide))) ckS_RX11_72 cd_X11_isIn rfl (Nat.le_of_ble_eq_true rfl) ⟨⟨by decide, by decide⟩, by decide, by decide⟩ rfl ?_
  refine aw_ifeq_b 25 45 dX11_picture_25 (by decide) (fun h25 => ?_) (fun h25 => ?_)
  · refine aw_bipush 45 (-2) dX11_picture_45 (by decide) ?_
    refine aw_iret 47 dX11_picture_47 rfl (Nat.zero_le _) (Nat.zero_le _) ?_
    exact ⟨rfl, hR, α, hC⟩
  · refine aw_iload2 28 dX11_picture_28 ?_
    refine aw_ic1 29 dX11_picture_29 ?_
    refine aw_ic4 30 dX11_picture_30 ?_
    refine cr_s1 31 dX11_picture_31 (cr_sd (c_isInZ (1) (4) (by decide) (by decide))) ckS_RX11_72 cd_X11_isIn rfl (Nat.le_of_ble_eq_true rfl) ⟨⟨by decide, by decide⟩, by decide, by decide⟩ rfl ?_
    refine aw_ifeq_b 34 45 dX11_picture_34 (by decide) (fun h34 => ?_) (fun h34 => ?_)
    · refine aw_bipush 45 (-2) dX11_picture_45 (by decide) ?_
      refine aw_iret 47 dX11_picture_47 rfl (Nat.zero_le _) (Nat.zero_le _) ?_
      exact ⟨rfl, hR, α, hC⟩
    · refine aw_iload4 37 dX11_picture_37 ?_
      refine cr_s1 39 dX11_picture_39 (cr_sd c_X11_isLane) ckS_RX11_76 cd_X11_isLane rfl (Nat.le_of_ble_eq_true rfl) ⟨⟨by decide, by decide⟩, by decide, by decide⟩ rfl ?_
      refine aw_ifne_b 42 48 dX11_picture_42 (by decide) (fun h42 => ?_) (fun h42 => ?_)
      · exact (hno.elim (fun q => q h25) (fun q => q.elim (fun z => z h34) (fun z => z h42))).elim
      · refine aw_bipush 45 (-2) dX11_picture_45 (by decide) ?_
        refine aw_iret 47 dX11_picture_47 rfl (Nat.zero_le _) (Nat.zero_le _) ?_
        exact ⟨rfl, hR, α, hC⟩

set_option maxHeartbeats 4000000 in
set_option maxRecDepth 100000 in
theorem n3_X11_picture {M0 : Mem} {τ : TT} {α : AT} {w h k : Nat} {l i : Int32} (hC : CW τ α M0) (hw1 : 1 ≤ w ∧ w ≤ 4) (hh1 : 1 ≤ h ∧ h ≤ 4) (hk : k < 4) (hl : irg l 0 2) (hb : ¬ bar τ k l i (nI (w * h)).toInt64 = 0) : CK mX11_picture rmX11_picture [.int (nI w), .int (nI h), .int (nI k), .int l, .int i] M0 (.int (-10 - bar τ k l i (nI (w * h)).toInt64)) (tu τ 0 0 (bar τ k l i (nI (w * h)).toInt64)) := by
  refine am_of rfl rfl (ls := [some (.ref 2), some (.int (nI w)), some (.int (nI h)), some (.int (nI k)), some (.int l), some (.int i), none, none, none]) rfl ?_
  suffices HH : ∀ M, (CW τ α M) → (Kr M0 M) → AW mX11_picture rmX11_picture (fun r' M' => r' = (some (.int (-10 - bar τ k l i (nI (w * h)).toInt64))) ∧ (fun M2 => Kr M0 M2 ∧ ∃ α2, CW (tu τ 0 0 (bar τ k l i (nI (w * h)).toInt64)) α2 M2) M') 0 [some (.ref 2), some (.int (nI w)), some (.int (nI h)), some (.int (nI k)), some (.int l), some (.int i), none, none, none] [] M 0 0 from HH M0 hC (Kr.rf _)
  intro M hC hR
  have hmu := wmul hw1.2 hh1.2
  have hiw : irg (nI w) 1 4 := by unfold irg; rw [nI_toInt (by omega)]; omega
  have hih : irg (nI h) 1 4 := by unfold irg; rw [nI_toInt (by omega)]; omega
  refine aw_aload0 0 dX11_picture_0 ?_
  refine aw_ic0 1 dX11_picture_1 ?_
  refine fp_put 2 dX11_picture_2 ckF_RX11_64_11 ckP11_12 hC.xo.1 rfl rfl (fun M hd => ?_)
  replace hR := hR.trans (hd.toWd.kp.kr hC.m1 (fun b q => by omega))
  replace hC := hC.flt hd
  clear hd
  refine aw_aload0 5 dX11_picture_5 ?_
  refine aw_iload3 6 dX11_picture_6 ?_
  refine cr_v1 7 dX11_picture_7 (c_X11_sheetAt hC hk) ckV_RX11_68 cd_X11_sheetAt hC.xo.1 vc11 rfl rfl (Nat.le_of_ble_eq_true rfl) ⟨⟨by decide, by decide⟩, by decide, by decide⟩ rfl ?_
  refine aw_astore6 10 dX11_picture_10 rfl ?_
  refine aw_aload6 12 dX11_picture_12 ?_
  refine aw_ifnonnull 14 19 dX11_picture_14 (by decide) ?_
  refine aw_iload1 19 dX11_picture_19 ?_
  refine aw_ic1 20 dX11_picture_20 ?_
  refine aw_ic4 21 dX11_picture_21 ?_
  refine cr_s1 22 dX11_picture_22 (cr_sd (c_isInZ (1) (4) (by decide) (by decide))) ckS_RX11_72 cd_X11_isIn rfl (Nat.le_of_ble_eq_true rfl) ⟨⟨by decide, by decide⟩, by decide, by decide⟩ rfl ?_
  refine aw_ifeq_b 25 45 dX11_picture_25 (by decide) (fun h25 => ?_) (fun h25 => ?_)
  · exact absurd hiw h25
  · refine aw_iload2 28 dX11_picture_28 ?_
    refine aw_ic1 29 dX11_picture_29 ?_
    refine aw_ic4 30 dX11_picture_30 ?_
    refine cr_s1 31 dX11_picture_31 (cr_sd (c_isInZ (1) (4) (by decide) (by decide))) ckS_RX11_72 cd_X11_isIn rfl (Nat.le_of_ble_eq_true rfl) ⟨⟨by decide, by decide⟩, by decide, by decide⟩ rfl ?_
    refine aw_ifeq_b 34 45 dX11_picture_34 (by decide) (fun h34 => ?_) (fun h34 => ?_)
    · exact absurd hih h34
    · refine aw_iload4 37 dX11_picture_37 ?_
      refine cr_s1 39 dX11_picture_39 (cr_sd c_X11_isLane) ckS_RX11_76 cd_X11_isLane rfl (Nat.le_of_ble_eq_true rfl) ⟨⟨by decide, by decide⟩, by decide, by decide⟩ rfl ?_
      refine aw_ifne_b 42 48 dX11_picture_42 (by decide) (fun h42 => ?_) (fun h42 => ?_)
      · obtain ⟨hr0, lane0, len0, c0, hV, hv1, hv2⟩ := hC.sh k hk
        refine aw_aload6 48 dX11_picture_48 ?_
        refine aw_iload4 50 dX11_picture_50 ?_
        refine aw_iload5 52 dX11_picture_52 ?_
        refine aw_iload1 54 dX11_picture_54 ?_
        refine aw_iload2 55 dX11_picture_55 ?_
        refine aw_imulN 56 (w) (h) dX11_picture_56 rfl rfl ?_
        refine cr_v1 57 dX11_picture_57 (hC.fault hk) ckV_RX11_80 cd_X5_faultOf hV.1 vc5 rfl rfl (Nat.le_of_ble_eq_true rfl) ⟨⟨by decide, by decide⟩, by decide, by decide⟩ rfl ?_
        refine aw_topi (w := bar τ k l i (nI (w * h)).toInt64) rfl ?_
        refine aw_istore7 60 dX11_picture_60 rfl ?_
        refine aw_iload7 62 dX11_picture_62 ?_
        refine aw_if_eq 64 74 dX11_picture_64 (by decide) (fun h64 => ?_) (fun h64 => ?_)
        · exact absurd h64 hb
        · refine aw_aload0 67 dX11_picture_67 ?_
          refine aw_iload7 68 dX11_picture_68 ?_
          refine ap_v1 70 dX11_picture_70 (c_X11_failed hC) ckV_RX11_84 cd_X11_failed hC.xo.1 vc11 rfl rfl (Nat.le_of_ble_eq_true rfl) ⟨⟨by decide, by decide⟩, by decide, by decide⟩ rfl (fun M hd => ?_)
          replace hR := hR.trans (hd.toWd.kp.kr hC.m1 (fun b q => by omega))
          replace hC := hC.flt hd
          rw [tu_ch] at hC
          refine aw_iret 73 dX11_picture_73 rfl (Nat.zero_le _) (Nat.zero_le _) ?_
          exact ⟨rfl, hR, α, hC⟩
      · exact absurd hl h42

set_option maxHeartbeats 4000000 in
set_option maxRecDepth 100000 in
theorem n4_X11_picture {M0 : Mem} {τ : TT} {α : AT} {w h k i : Nat} {l : Int32} (hC : CW τ α M0) (hw1 : 1 ≤ w ∧ w ≤ 4) (hh1 : 1 ≤ h ∧ h ≤ 4) (hk : k < 4) (hl : irg l 0 2) (h0 : ¬ τ 28 k < 0) (hll : τ 29 k = l) (hi : i + w * h ≤ ssz τ k) (hbad : ∃ y, y < w * h ∧ ¬ irg (τ 30 (60 * k + i + y)) 0 99) : CK mX11_picture rmX11_picture [.int (nI w), .int (nI h), .int (nI k), .int l, .int (nI i)] M0 (.int (-2)) (tu τ 0 0 0) := by
  refine am_of rfl rfl (ls := [some (.ref 2), some (.int (nI w)), some (.int (nI h)), some (.int (nI k)), some (.int l), some (.int (nI i)), none, none, none]) rfl ?_
  suffices HH : ∀ M, (CW τ α M) → (Kr M0 M) → AW mX11_picture rmX11_picture (fun r' M' => r' = (some (.int (-2))) ∧ (fun M2 => Kr M0 M2 ∧ ∃ α2, CW (tu τ 0 0 0) α2 M2) M') 0 [some (.ref 2), some (.int (nI w)), some (.int (nI h)), some (.int (nI k)), some (.int l), some (.int (nI i)), none, none, none] [] M 0 0 from HH M0 hC (Kr.rf _)
  intro M hC hR
  have hmu := wmul hw1.2 hh1.2
  have hiw : irg (nI w) 1 4 := by unfold irg; rw [nI_toInt (by omega)]; omega
  have hih : irg (nI h) 1 4 := by unfold irg; rw [nI_toInt (by omega)]; omega
  refine aw_aload0 0 dX11_picture_0 ?_
  refine aw_ic0 1 dX11_picture_1 ?_
  refine fp_put 2 dX11_picture_2 ckF_RX11_64_11 ckP11_12 hC.xo.1 rfl rfl (fun M hd => ?_)
  replace hR := hR.trans (hd.toWd.kp.kr hC.m1 (fun b q => by omega))
  replace hC := hC.flt hd
  clear hd
  refine aw_aload0 5 dX11_picture_5 ?_
  refine aw_iload3 6 dX11_picture_6 ?_
  refine cr_v1 7 dX11_picture_7 (c_X11_sheetAt hC hk) ckV_RX11_68 cd_X11_sheetAt hC.xo.1 vc11 rfl rfl (Nat.le_of_ble_eq_true rfl) ⟨⟨by decide, by decide⟩, by decide, by decide⟩ rfl ?_
  refine aw_astore6 10 dX11_picture_10 rfl ?_
  refine aw_aload6 12 dX11_picture_12 ?_
  refine aw_ifnonnull 14 19 dX11_picture_14 (by decide) ?_
  refine aw_iload1 19 dX11_picture_19 ?_
  refine aw_ic1 20 dX11_picture_20 ?_
  refine aw_ic4 21 dX11_picture_21 ?_
  refine cr_s1 22 dX11_picture_22 (cr_sd (c_isInZ (1) (4) (by decide) (by decide))) ckS_RX11_72 cd_X11_isIn rfl (Nat.le_of_ble_eq_true rfl) ⟨⟨by decide, by decide⟩, by decide, by decide⟩ rfl ?_
  refine aw_ifeq_b 25 45 dX11_picture_25 (by decide) (fun h25 => ?_) (fun h25 => ?_)
  · exact absurd hiw h25
  · refine aw_iload2 28 dX11_picture_28 ?_
    refine aw_ic1 29 dX11_picture_29 ?_
    refine aw_ic4 30 dX11_picture_30 ?_
    refine cr_s1 31 dX11_picture_31 (cr_sd (c_isInZ (1) (4) (by decide) (by decide))) ckS_RX11_72 cd_X11_isIn rfl (Nat.le_of_ble_eq_true rfl) ⟨⟨by decide, by decide⟩, by decide, by decide⟩ rfl ?_
    refine aw_ifeq_b 34 45 dX11_picture_34 (by decide) (fun h34 => ?_) (fun h34 => ?_)
    · exact absurd hih h34
    · refine aw_iload4 37 dX11_picture_37 ?_
      refine cr_s1 39 dX11_picture_39 (cr_sd c_X11_isLane) ckS_RX11_76 cd_X11_isLane rfl (Nat.le_of_ble_eq_true rfl) ⟨⟨by decide, by decide⟩, by decide, by decide⟩ rfl ?_
      refine aw_ifne_b 42 48 dX11_picture_42 (by decide) (fun h42 => ?_) (fun h42 => ?_)
      · obtain ⟨c0, hV, h60, hc0⟩ := hC.row hk h0
        have h60 : ssz τ k ≤ 60 := h60
        refine aw_aload6 48 dX11_picture_48 ?_
        refine aw_iload4 50 dX11_picture_50 ?_
        refine aw_iload5 52 dX11_picture_52 ?_
        refine aw_iload1 54 dX11_picture_54 ?_
        refine aw_iload2 55 dX11_picture_55 ?_
        refine aw_imulN 56 (w) (h) dX11_picture_56 rfl rfl ?_
        refine cr_v1 57 dX11_picture_57 (hC.fault hk) ckV_RX11_80 cd_X5_faultOf hV.1 vc5 rfl rfl (Nat.le_of_ble_eq_true rfl) ⟨⟨by decide, by decide⟩, by decide, by decide⟩ rfl ?_
        refine aw_topi (w := 0) (bar_0 (n := w * h) hC.ws hk h0 hll hi) ?_
        refine aw_istore7 60 dX11_picture_60 rfl ?_
        refine aw_iload7 62 dX11_picture_62 ?_
        refine aw_if_eqN 64 74 (0) dX11_picture_64 (by decide) rfl (by decide) (fun _ => ?_) (fun h => absurd h (by decide))
        refine aw_aload6 74 dX11_picture_74 ?_
        refine aw_iload5 76 dX11_picture_76 ?_
        refine aw_iload1 78 dX11_picture_78 ?_
        refine aw_iload2 79 dX11_picture_79 ?_
        refine aw_imulN 80 (w) (h) dX11_picture_80 rfl rfl ?_
        refine cr_v1 81 dX11_picture_81 (c_hold hV h60 hi) ckV_RX11_88 cd_X5_holdsSquares hV.1 vc5 rfl rfl (Nat.le_of_ble_eq_true rfl) ⟨⟨by decide, by decide⟩, by decide, by decide⟩ rfl ?_
        refine aw_ifne_b 84 90 dX11_picture_84 (by decide) (fun h84 => ?_) (fun h84 => ?_)
        · have heq : ∀ y, y < w * h → c0 (i + y) = τ 30 (60 * k + i + y) := fun y hy => (hc0 (i + y) (by show i + y < ssz τ k; omega)).trans (by show τ 30 (60 * k + (i + y)) = _; congr 1; omega)
          obtain ⟨y, y1, y2⟩ := hbad
          exact absurd (by rw [← heq y y1]; exact h84 y y1) y2
        · refine aw_bipush 87 (-2) dX11_picture_87 (by decide) ?_
          refine aw_iret 89 dX11_picture_89 rfl (Nat.zero_le _) (Nat.zero_le _) ?_
          exact ⟨rfl, hR, α, hC⟩
      · exact absurd hl h42

set_option maxHeartbeats 4000000 in
set_option maxRecDepth 100000 in
theorem n5_X11_picture {M0 : Mem} {τ : TT} {α : AT} {w h k i : Nat} {l : Int32} (hC : CW τ α M0) (hw1 : 1 ≤ w ∧ w ≤ 4) (hh1 : 1 ≤ h ∧ h ≤ 4) (hk : k < 4) (hl : irg l 0 2) (h0 : ¬ τ 28 k < 0) (hll : τ 29 k = l) (hi : i + w * h ≤ ssz τ k) (hall : ∀ y, y < w * h → irg (τ 30 (60 * k + i + y)) 0 99) (hf : nP τ = 12) : CK mX11_picture rmX11_picture [.int (nI w), .int (nI h), .int (nI k), .int l, .int (nI i)] M0 (.int (-4)) (tu τ 0 0 0) := by
  refine am_of rfl rfl (ls := [some (.ref 2), some (.int (nI w)), some (.int (nI h)), some (.int (nI k)), some (.int l), some (.int (nI i)), none, none, none]) rfl ?_
  suffices HH : ∀ M, (CW τ α M) → (Kr M0 M) → AW mX11_picture rmX11_picture (fun r' M' => r' = (some (.int (-4))) ∧ (fun M2 => Kr M0 M2 ∧ ∃ α2, CW (tu τ 0 0 0) α2 M2) M') 0 [some (.ref 2), some (.int (nI w)), some (.int (nI h)), some (.int (nI k)), some (.int l), some (.int (nI i)), none, none, none] [] M 0 0 from HH M0 hC (Kr.rf _)
  intro M hC hR
  have hmu := wmul hw1.2 hh1.2
  have hiw : irg (nI w) 1 4 := by unfold irg; rw [nI_toInt (by omega)]; omega
  have hih : irg (nI h) 1 4 := by unfold irg; rw [nI_toInt (by omega)]; omega
  refine aw_aload0 0 dX11_picture_0 ?_
  refine aw_ic0 1 dX11_picture_1 ?_
  refine fp_put 2 dX11_picture_2 ckF_RX11_64_11 ckP11_12 hC.xo.1 rfl rfl (fun M hd => ?_)
  replace hR := hR.trans (hd.toWd.kp.kr hC.m1 (fun b q => by omega))
  replace hC := hC.flt hd
  clear hd
  refine aw_aload0 5 dX11_picture_5 ?_
  refine aw_iload3 6 dX11_picture_6 ?_
  refine cr_v1 7 dX11_picture_7 (c_X11_sheetAt hC hk) ckV_RX11_68 cd_X11_sheetAt hC.xo.1 vc11 rfl rfl (Nat.le_of_ble_eq_true rfl) ⟨⟨by decide, by decide⟩, by decide, by decide⟩ rfl ?_
  refine aw_astore6 10 dX11_picture_10 rfl ?_
  refine aw_aload6 12 dX11_picture_12 ?_
  refine aw_ifnonnull 14 19 dX11_picture_14 (by decide) ?_
  refine aw_iload1 19 dX11_picture_19 ?_
  refine aw_ic1 20 dX11_picture_20 ?_
  refine aw_ic4 21 dX11_picture_21 ?_
  refine cr_s1 22 dX11_picture_22 (cr_sd (c_isInZ (1) (4) (by decide) (by decide))) ckS_RX11_72 cd_X11_isIn rfl (Nat.le_of_ble_eq_true rfl) ⟨⟨by decide, by decide⟩, by decide, by decide⟩ rfl ?_
  refine aw_ifeq_b 25 45 dX11_picture_25 (by decide) (fun h25 => ?_) (fun h25 => ?_)
  · exact absurd hiw h25
  · refine aw_iload2 28 dX11_picture_28 ?_
    refine aw_ic1 29 dX11_picture_29 ?_
    refine aw_ic4 30 dX11_picture_30 ?_
    refine cr_s1 31 dX11_picture_31 (cr_sd (c_isInZ (1) (4) (by decide) (by decide))) ckS_RX11_72 cd_X11_isIn rfl (Nat.le_of_ble_eq_true rfl) ⟨⟨by decide, by decide⟩, by decide, by decide⟩ rfl ?_
    refine aw_ifeq_b 34 45 dX11_picture_34 (by decide) (fun h34 => ?_) (fun h34 => ?_)
    · exact absurd hih h34
    · refine aw_iload4 37 dX11_picture_37 ?_
      refine cr_s1 39 dX11_picture_39 (cr_sd c_X11_isLane) ckS_RX11_76 cd_X11_isLane rfl (Nat.le_of_ble_eq_true rfl) ⟨⟨by decide, by decide⟩, by decide, by decide⟩ rfl ?_
      refine aw_ifne_b 42 48 dX11_picture_42 (by decide) (fun h42 => ?_) (fun h42 => ?_)
      · obtain ⟨c0, hV, h60, hc0⟩ := hC.row hk h0
        have h60 : ssz τ k ≤ 60 := h60
        refine aw_aload6 48 dX11_picture_48 ?_
        refine aw_iload4 50 dX11_picture_50 ?_
        refine aw_iload5 52 dX11_picture_52 ?_
        refine aw_iload1 54 dX11_picture_54 ?_
        refine aw_iload2 55 dX11_picture_55 ?_
        refine aw_imulN 56 (w) (h) dX11_picture_56 rfl rfl ?_
        refine cr_v1 57 dX11_picture_57 (hC.fault hk) ckV_RX11_80 cd_X5_faultOf hV.1 vc5 rfl rfl (Nat.le_of_ble_eq_true rfl) ⟨⟨by decide, by decide⟩, by decide, by decide⟩ rfl ?_
        refine aw_topi (w := 0) (bar_0 (n := w * h) hC.ws hk h0 hll hi) ?_
        refine aw_istore7 60 dX11_picture_60 rfl ?_
        refine aw_iload7 62 dX11_picture_62 ?_
        refine aw_if_eqN 64 74 (0) dX11_picture_64 (by decide) rfl (by decide) (fun _ => ?_) (fun h => absurd h (by decide))
        refine aw_aload6 74 dX11_picture_74 ?_
        refine aw_iload5 76 dX11_picture_76 ?_
        refine aw_iload1 78 dX11_picture_78 ?_
        refine aw_iload2 79 dX11_picture_79 ?_
        refine aw_imulN 80 (w) (h) dX11_picture_80 rfl rfl ?_
        refine cr_v1 81 dX11_picture_81 (c_hold hV h60 hi) ckV_RX11_88 cd_X5_holdsSquares hV.1 vc5 rfl rfl (Nat.le_of_ble_eq_true rfl) ⟨⟨by decide, by decide⟩, by decide, by decide⟩ rfl ?_
        refine aw_ifne_b 84 90 dX11_picture_84 (by decide) (fun h84 => ?_) (fun h84 => ?_)
        · refine aw_aload0 90 dX11_picture_90 ?_
          refine aw_get 91 dX11_picture_91 ckF_RX11_92_11 hC.xo.1 (hC.xo.2.2.2.2.2.2.2.2.2.1.trans (congrArg Value.int hC.wp.1.2)) ?_
          refine aw_bipush 94 12 dX11_picture_94 (by decide) ?_
          refine aw_icmp_ltN 96 102 (nP τ) (12) dX11_picture_96 (by decide) rfl rfl (by omega) (by omega) (fun h96 => ?_) (fun h96 => ?_)
          · exact absurd h96 (by omega)
          · refine aw_bipush 99 (-4) dX11_picture_99 (by decide) ?_
            refine aw_iret 101 dX11_picture_101 rfl (Nat.zero_le _) (Nat.zero_le _) ?_
            exact ⟨rfl, hR, α, hC⟩
        · have heq : ∀ y, y < w * h → c0 (i + y) = τ 30 (60 * k + i + y) := fun y hy => (hc0 (i + y) (by show i + y < ssz τ k; omega)).trans (by show τ 30 (60 * k + (i + y)) = _; congr 1; omega)
          exact absurd (fun y hy => by rw [heq y hy]; exact hall y hy) h84
      · exact absurd hl h42

set_option maxHeartbeats 4000000 in
set_option maxRecDepth 100000 in
theorem c_X11_picture {M0 : Mem} {τ : TT} {α : AT} {w h k i : Nat} {l : Int32} (hC : CW τ α M0) (hw1 : 1 ≤ w ∧ w ≤ 4) (hh1 : 1 ≤ h ∧ h ≤ 4) (hk : k < 4) (hl : irg l 0 2) (h0 : ¬ τ 28 k < 0) (hll : τ 29 k = l) (hi : i + w * h ≤ ssz τ k) (hall : ∀ y, y < w * h → irg (τ 30 (60 * k + i + y)) 0 99) (hf : ¬ nP τ = 12) : CK mX11_picture rmX11_picture [.int (nI w), .int (nI h), .int (nI k), .int l, .int (nI i)] M0 (.int (nI (nP τ))) (tPc τ w h k i) := by
  refine am_of rfl rfl (ls := [some (.ref 2), some (.int (nI w)), some (.int (nI h)), some (.int (nI k)), some (.int l), some (.int (nI i)), none, none, none]) rfl ?_
  suffices HH : ∀ M, (CW τ α M) → (Kr M0 M) → AW mX11_picture rmX11_picture (fun r' M' => r' = (some (.int (nI (nP τ)))) ∧ (fun M2 => Kr M0 M2 ∧ ∃ α2, CW (tPc τ w h k i) α2 M2) M') 0 [some (.ref 2), some (.int (nI w)), some (.int (nI h)), some (.int (nI k)), some (.int l), some (.int (nI i)), none, none, none] [] M 0 0 from HH M0 hC (Kr.rf _)
  intro M hC hR
  have hmu := wmul hw1.2 hh1.2
  have hiw : irg (nI w) 1 4 := by unfold irg; rw [nI_toInt (by omega)]; omega
  have hih : irg (nI h) 1 4 := by unfold irg; rw [nI_toInt (by omega)]; omega
  have h12 := hC.wp.1.1
  refine aw_aload0 0 dX11_picture_0 ?_
  refine aw_ic0 1 dX11_picture_1 ?_
  refine fp_put 2 dX11_picture_2 ckF_RX11_64_11 ckP11_12 hC.xo.1 rfl rfl (fun M hd => ?_)
  replace hR := hR.trans (hd.toWd.kp.kr hC.m1 (fun b q => by omega))
  replace hC := hC.flt hd
  clear hd
  refine aw_aload0 5 dX11_picture_5 ?_
  refine aw_iload3 6 dX11_picture_6 ?_
  refine cr_v1 7 dX11_picture_7 (c_X11_sheetAt hC hk) ckV_RX11_68 cd_X11_sheetAt hC.xo.1 vc11 rfl rfl (Nat.le_of_ble_eq_true rfl) ⟨⟨by decide, by decide⟩, by decide, by decide⟩ rfl ?_
  refine aw_astore6 10 dX11_picture_10 rfl ?_
  refine aw_aload6 12 dX11_picture_12 ?_
  refine aw_ifnonnull 14 19 dX11_picture_14 (by decide) ?_
  refine aw_iload1 19 dX11_picture_19 ?_
  refine aw_ic1 20 dX11_picture_20 ?_
  refine aw_ic4 21 dX11_picture_21 ?_
  refine cr_s1 22 dX11_picture_22 (cr_sd (c_isInZ (1) (4) (by decide) (by decide))) ckS_RX11_72 cd_X11_isIn rfl (Nat.le_of_ble_eq_true rfl) ⟨⟨by decide, by decide⟩, by decide, by decide⟩ rfl ?_
  refine aw_ifeq_b 25 45 dX11_picture_25 (by decide) (fun h25 => ?_) (fun h25 => ?_)
  · exact absurd hiw h25
  · refine aw_iload2 28 dX11_picture_28 ?_
    refine aw_ic1 29 dX11_picture_29 ?_
    refine aw_ic4 30 dX11_picture_30 ?_
    refine cr_s1 31 dX11_picture_31 (cr_sd (c_isInZ (1) (4) (by decide) (by decide))) ckS_RX11_72 cd_X11_isIn rfl (Nat.le_of_ble_eq_true rfl) ⟨⟨by decide, by decide⟩, by decide, by decide⟩ rfl ?_
    refine aw_ifeq_b 34 45 dX11_picture_34 (by decide) (fun h34 => ?_) (fun h34 => ?_)
    · exact absurd hih h34
    · refine aw_iload4 37 dX11_picture_37 ?_
      refine cr_s1 39 dX11_picture_39 (cr_sd c_X11_isLane) ckS_RX11_76 cd_X11_isLane rfl (Nat.le_of_ble_eq_true rfl) ⟨⟨by decide, by decide⟩, by decide, by decide⟩ rfl ?_
      refine aw_ifne_b 42 48 dX11_picture_42 (by decide) (fun h42 => ?_) (fun h42 => ?_)
      · obtain ⟨c0, hV, h60, hc0⟩ := hC.row hk h0
        have h60 : ssz τ k ≤ 60 := h60
        refine aw_aload6 48 dX11_picture_48 ?_
        refine aw_iload4 50 dX11_picture_50 ?_
        refine aw_iload5 52 dX11_picture_52 ?_
        refine aw_iload1 54 dX11_picture_54 ?_
        refine aw_iload2 55 dX11_picture_55 ?_
        refine aw_imulN 56 (w) (h) dX11_picture_56 rfl rfl ?_
        refine cr_v1 57 dX11_picture_57 (hC.fault hk) ckV_RX11_80 cd_X5_faultOf hV.1 vc5 rfl rfl (Nat.le_of_ble_eq_true rfl) ⟨⟨by decide, by decide⟩, by decide, by decide⟩ rfl ?_
        refine aw_topi (w := 0) (bar_0 (n := w * h) hC.ws hk h0 hll hi) ?_
        refine aw_istore7 60 dX11_picture_60 rfl ?_
        refine aw_iload7 62 dX11_picture_62 ?_
        refine aw_if_eqN 64 74 (0) dX11_picture_64 (by decide) rfl (by decide) (fun _ => ?_) (fun h => absurd h (by decide))
        refine aw_aload6 74 dX11_picture_74 ?_
        refine aw_iload5 76 dX11_picture_76 ?_
        refine aw_iload1 78 dX11_picture_78 ?_
        refine aw_iload2 79 dX11_picture_79 ?_
        refine aw_imulN 80 (w) (h) dX11_picture_80 rfl rfl ?_
        refine cr_v1 81 dX11_picture_81 (c_hold hV h60 hi) ckV_RX11_88 cd_X5_holdsSquares hV.1 vc5 rfl rfl (Nat.le_of_ble_eq_true rfl) ⟨⟨by decide, by decide⟩, by decide, by decide⟩ rfl ?_
        refine aw_ifne_b 84 90 dX11_picture_84 (by decide) (fun h84 => ?_) (fun h84 => ?_)
        · refine aw_aload0 90 dX11_picture_90 ?_
          refine aw_get 91 dX11_picture_91 ckF_RX11_92_11 hC.xo.1 (hC.xo.2.2.2.2.2.2.2.2.2.1.trans (congrArg Value.int hC.wp.1.2)) ?_
          refine aw_bipush 94 12 dX11_picture_94 (by decide) ?_
          refine aw_icmp_ltN 96 102 (nP τ) (12) dX11_picture_96 (by decide) rfl rfl (by omega) (by omega) (fun h96 => ?_) (fun h96 => ?_)
          · have hm := hC.m1
            obtain ⟨A, hA⟩ : ∃ A, M.1 = A := ⟨_, rfl⟩
            have hCb := hC
            refine aw_aload0 102 dX11_picture_102 ?_
            refine ap_v 103 dX11_picture_103 (c_X11_addPicture hC hA (by show nP τ < 12; omega)) ckV_RX11_95 cd_X11_addPicture hC.xo.1 vc11 rfl rfl (Nat.le_of_ble_eq_true rfl) ⟨⟨by decide, by decide⟩, by decide, by decide⟩ (fun M hN => ?_)
            obtain ⟨hM1, hk1, hP, hsl, hso, hx⟩ := hN
            replace hR := hR.trans (hk1.kr hm (fun b q => by omega))
            replace hV := hV.kp hk1 (by omega) (by omega) (by omega)
            refine aw_astore8 106 dX11_picture_106 rfl ?_
            refine aw_aload8 108 dX11_picture_108 ?_
            refine aw_iload1 110 dX11_picture_110 ?_
            refine aw_iload2 111 dX11_picture_111 ?_
            refine aw_aload6 112 dX11_picture_112 ?_
            refine aw_iload5 114 dX11_picture_114 ?_
            refine ap_v0 116 dX11_picture_116 (c_X3_fill hP hV (by omega) (by omega) h60 hi hw1 hh1) ckV_RX11_99 cd_X3_fill hP.1 vc3 rfl rfl (Nat.le_of_ble_eq_true rfl) ⟨⟨by decide, by decide⟩, by decide, by decide⟩ rfl (fun M hq => ?_)
            have h49 : 49 ≤ A := by omega
            replace hR := hR.trans (hq.1.kp.kr (by omega) (fun b q => by omega))
            replace hsl := (congrFun (hq.1.2.2 3 (by omega)) _).trans hsl
            replace hso := fun q (hq2 : q < nP τ) => (congrFun (hq.1.2.2 3 (by omega)) q).trans (hso q hq2)
            replace hx := hx.kp hq.1.kp (by omega) (by omega)
            replace hk1 := hk1.frs2 hq.1 (fun b q => by omega)
            replace hP := hq.2
            replace hC := hCb.pcw (by omega) hA (by rw [hq.1.1]; omega) hk1 hP hw1 hh1 hsl hso hx hi hc0 hall
            refine aw_aload8 119 dX11_picture_119 ?_
            refine aw_get 121 dX11_picture_121 ckF_RX11_103_3 hP.1 hP.2.1 ?_
            refine aw_iret 124 dX11_picture_124 rfl (by decide) (by decide) ?_
            exact ⟨rfl, hR, _, hC⟩
          · exact absurd h96 (by omega)
        · have heq : ∀ y, y < w * h → c0 (i + y) = τ 30 (60 * k + i + y) := fun y hy => (hc0 (i + y) (by show i + y < ssz τ k; omega)).trans (by show τ 30 (60 * k + (i + y)) = _; congr 1; omega)
          exact absurd (fun y hy => by rw [heq y hy]; exact hall y hy) h84
      · exact absurd hl h42

def rmX11_act : Room := { frames := 6, cells := 2, slots := 21, locals := 134 }
set_option maxHeartbeats 4000000 in
set_option maxRecDepth 100000 in
theorem n00_X11_act {M0 : Mem} {τ : TT} {α : AT} {v : Int32} {u : Int32} {l i n : Int32} (hC : CW τ α M0) (hno : ¬ ir v (nP τ)) (hno2 : ¬ irg u 0 3) : CK mX11_act rmX11_act [.int v, .int u, .int l, .int i, .int n] M0 (.int (-1)) (tu τ 0 0 0) := by
  refine am_of rfl rfl (ls := [some (.ref 2), some (.int v), some (.int u), some (.int l), some (.int i), some (.int n), none, none, none, none]) rfl ?_
  suffices HH : ∀ M, (CW τ α M) → (Kr M0 M) → AW mX11_act rmX11_act (fun r' M' => r' = (some (.int (-1))) ∧ (fun M2 => Kr M0 M2 ∧ ∃ α2, CW (tu τ 0 0 0) α2 M2) M') 0 [some (.ref 2), some (.int v), some (.int u), some (.int l), some (.int i), some (.int n), none, none, none, none] [] M 0 0 from HH M0 hC (Kr.rf _)
  intro M hC hR
  refine aw_aload0 0 dX11_act_0 ?_
  refine aw_ic0 1 dX11_act_1 ?_
  refine fp_put 2 dX11_act_2 ckF_RX11_64_11 ckP11_12 hC.xo.1 rfl rfl (fun M hd => ?_)
  replace hR := hR.trans (hd.toWd.kp.kr hC.m1 (fun b q => by omega))
  replace hC := hC.flt hd
  clear hd
  refine aw_aload0 5 dX11_act_5 ?_
  refine aw_iload1 6 dX11_act_6 ?_
  refine cr_v1 7 dX11_act_7 (n_X11_pictureAt hC hno) ckV_RX11_106 cd_X11_pictureAt hC.xo.1 vc11 rfl rfl (Nat.le_of_ble_eq_true rfl) ⟨⟨by decide, by decide⟩, by decide, by decide⟩ rfl ?_
  refine aw_astoreN6 10 dX11_act_10 rfl ?_
  refine aw_aload0 12 dX11_act_12 ?_
  refine aw_iload2 13 dX11_act_13 ?_
  refine cr_v1 14 dX11_act_14 (n_X11_sheetAt hC hno2) ckV_RX11_68 cd_X11_sheetAt hC.xo.1 vc11 rfl rfl (Nat.le_of_ble_eq_true rfl) ⟨⟨by decide, by decide⟩, by decide, by decide⟩ rfl ?_
  refine aw_astoreN7 17 dX11_act_17 rfl ?_
  refine aw_aloadN6 19 dX11_act_19 ?_
  refine aw_ifnullN 21 29 dX11_act_21 (by decide) ?_
  refine aw_icm1 29 dX11_act_29 ?_
  refine aw_iret 30 dX11_act_30 rfl (Nat.zero_le _) (Nat.zero_le _) ?_
  exact ⟨rfl, hR, α, hC⟩

set_option maxHeartbeats 4000000 in
set_option maxRecDepth 100000 in
theorem n01_X11_act {M0 : Mem} {τ : TT} {α : AT} {v : Int32} {k : Nat} {l i n : Int32} (hC : CW τ α M0) (hno : ¬ ir v (nP τ)) (hk : k < 4) : CK mX11_act rmX11_act [.int v, .int (nI k), .int l, .int i, .int n] M0 (.int (-1)) (tu τ 0 0 0) := by
  refine am_of rfl rfl (ls := [some (.ref 2), some (.int v), some (.int (nI k)), some (.int l), some (.int i), some (.int n), none, none, none, none]) rfl ?_
  suffices HH : ∀ M, (CW τ α M) → (Kr M0 M) → AW mX11_act rmX11_act (fun r' M' => r' = (some (.int (-1))) ∧ (fun M2 => Kr M0 M2 ∧ ∃ α2, CW (tu τ 0 0 0) α2 M2) M') 0 [some (.ref 2), some (.int v), some (.int (nI k)), some (.int l), some (.int i), some (.int n), none, none, none, none] [] M 0 0 from HH M0 hC (Kr.rf _)
  intro M hC hR
  refine aw_aload0 0 dX11_act_0 ?_
  refine aw_ic0 1 dX11_act_1 ?_
  refine fp_put 2 dX11_act_2 ckF_RX11_64_11 ckP11_12 hC.xo.1 rfl rfl (fun M hd => ?_)
  replace hR := hR.trans (hd.toWd.kp.kr hC.m1 (fun b q => by omega))
  replace hC := hC.flt hd
  clear hd
  refine aw_aload0 5 dX11_act_5 ?_
  refine aw_iload1 6 dX11_act_6 ?_
  refine cr_v1 7 dX11_act_7 (n_X11_pictureAt hC hno) ckV_RX11_106 cd_X11_pictureAt hC.xo.1 vc11 rfl rfl (Nat.le_of_ble_eq_true rfl) ⟨⟨by decide, by decide⟩, by decide, by decide⟩ rfl ?_
  refine aw_astoreN6 10 dX11_act_10 rfl ?_
  refine aw_aload0 12 dX11_act_12 ?_
  refine aw_iload2 13 dX11_act_13 ?_
  refine cr_v1 14 dX11_act_14 (c_X11_sheetAt hC hk) ckV_RX11_68 cd_X11_sheetAt hC.xo.1 vc11 rfl rfl (Nat.le_of_ble_eq_true rfl) ⟨⟨by decide, by decide⟩, by decide, by decide⟩ rfl ?_
  refine aw_astore7 17 dX11_act_17 rfl ?_
  refine aw_aloadN6 19 dX11_act_19 ?_
  refine aw_ifnullN 21 29 dX11_act_21 (by decide) ?_
  refine aw_icm1 29 dX11_act_29 ?_
  refine aw_iret 30 dX11_act_30 rfl (Nat.zero_le _) (Nat.zero_le _) ?_
  exact ⟨rfl, hR, α, hC⟩

set_option maxHeartbeats 4000000 in
set_option maxRecDepth 100000 in
theorem n10_X11_act {M0 : Mem} {τ : TT} {α : AT} {p : Nat} {u : Int32} {l i n : Int32} (hC : CW τ α M0) (hp : p < nP τ) (hno2 : ¬ irg u 0 3) : CK mX11_act rmX11_act [.int (nI p), .int u, .int l, .int i, .int n] M0 (.int (-1)) (tu τ 0 0 0) := by
  refine am_of rfl rfl (ls := [some (.ref 2), some (.int (nI p)), some (.int u), some (.int l), some (.int i), some (.int n), none, none, none, none]) rfl ?_
  suffices HH : ∀ M, (CW τ α M) → (Kr M0 M) → AW mX11_act rmX11_act (fun r' M' => r' = (some (.int (-1))) ∧ (fun M2 => Kr M0 M2 ∧ ∃ α2, CW (tu τ 0 0 0) α2 M2) M') 0 [some (.ref 2), some (.int (nI p)), some (.int u), some (.int l), some (.int i), some (.int n), none, none, none, none] [] M 0 0 from HH M0 hC (Kr.rf _)
  intro M hC hR
  refine aw_aload0 0 dX11_act_0 ?_
  refine aw_ic0 1 dX11_act_1 ?_
  refine fp_put 2 dX11_act_2 ckF_RX11_64_11 ckP11_12 hC.xo.1 rfl rfl (fun M hd => ?_)
  replace hR := hR.trans (hd.toWd.kp.kr hC.m1 (fun b q => by omega))
  replace hC := hC.flt hd
  clear hd
  refine aw_aload0 5 dX11_act_5 ?_
  refine aw_iload1 6 dX11_act_6 ?_
  refine cr_v1 7 dX11_act_7 (c_X11_pictureAt hC hp) ckV_RX11_106 cd_X11_pictureAt hC.xo.1 vc11 rfl rfl (Nat.le_of_ble_eq_true rfl) ⟨⟨by decide, by decide⟩, by decide, by decide⟩ rfl ?_
  refine aw_astore6 10 dX11_act_10 rfl ?_
  refine aw_aload0 12 dX11_act_12 ?_
  refine aw_iload2 13 dX11_act_13 ?_
  refine cr_v1 14 dX11_act_14 (n_X11_sheetAt hC hno2) ckV_RX11_68 cd_X11_sheetAt hC.xo.1 vc11 rfl rfl (Nat.le_of_ble_eq_true rfl) ⟨⟨by decide, by decide⟩, by decide, by decide⟩ rfl ?_
  refine aw_astoreN7 17 dX11_act_17 rfl ?_
  refine aw_aload6 19 dX11_act_19 ?_
  refine aw_ifnull 21 dX11_act_21 ?_
  refine aw_aloadN7 24 dX11_act_24 ?_
  refine aw_ifnonnullN 26 dX11_act_26 ?_
  refine aw_icm1 29 dX11_act_29 ?_
  refine aw_iret 30 dX11_act_30 rfl (Nat.zero_le _) (Nat.zero_le _) ?_
  exact ⟨rfl, hR, α, hC⟩

set_option maxHeartbeats 4000000 in
set_option maxRecDepth 100000 in
theorem n2_X11_act {M0 : Mem} {τ : TT} {α : AT} {p k : Nat} {l i n : Int32} (hC : CW τ α M0) (hp : p < nP τ) (hk : k < 4) (hl : ¬ irg l 0 2) : CK mX11_act rmX11_act [.int (nI p), .int (nI k), .int l, .int i, .int n] M0 (.int (-2)) (tu τ 0 0 0) := by
  refine am_of rfl rfl (ls := [some (.ref 2), some (.int (nI p)), some (.int (nI k)), some (.int l), some (.int i), some (.int n), none, none, none, none]) rfl ?_
  suffices HH : ∀ M, (CW τ α M) → (Kr M0 M) → AW mX11_act rmX11_act (fun r' M' => r' = (some (.int (-2))) ∧ (fun M2 => Kr M0 M2 ∧ ∃ α2, CW (tu τ 0 0 0) α2 M2) M') 0 [some (.ref 2), some (.int (nI p)), some (.int (nI k)), some (.int l), some (.int i), some (.int n), none, none, none, none] [] M 0 0 from HH M0 hC (Kr.rf _)
  intro M hC hR
  refine aw_aload0 0 dX11_act_0 ?_
  refine aw_ic0 1 dX11_act_1 ?_
  refine fp_put 2 dX11_act_2 ckF_RX11_64_11 ckP11_12 hC.xo.1 rfl rfl (fun M hd => ?_)
  replace hR := hR.trans (hd.toWd.kp.kr hC.m1 (fun b q => by omega))
  replace hC := hC.flt hd
  clear hd
  refine aw_aload0 5 dX11_act_5 ?_
  refine aw_iload1 6 dX11_act_6 ?_
  refine cr_v1 7 dX11_act_7 (c_X11_pictureAt hC hp) ckV_RX11_106 cd_X11_pictureAt hC.xo.1 vc11 rfl rfl (Nat.le_of_ble_eq_true rfl) ⟨⟨by decide, by decide⟩, by decide, by decide⟩ rfl ?_
  refine aw_astore6 10 dX11_act_10 rfl ?_
  refine aw_aload0 12 dX11_act_12 ?_
  refine aw_iload2 13 dX11_act_13 ?_
  refine cr_v1 14 dX11_act_14 (c_X11_sheetAt hC hk) ckV_RX11_68 cd_X11_sheetAt hC.xo.1 vc11 rfl rfl (Nat.le_of_ble_eq_true rfl) ⟨⟨by decide, by decide⟩, by decide, by decide⟩ rfl ?_
  refine aw_astore7 17 dX11_act_17 rfl ?_
  refine aw_aload6 19 dX11_act_19 ?_
  refine aw_ifnull 21 dX11_act_21 ?_
  refine aw_aload7 24 dX11_act_24 ?_
  refine aw_ifnonnull 26 31 dX11_act_26 (by decide) ?_
  refine aw_iload3 31 dX11_act_31 ?_
  refine cr_s1 32 dX11_act_32 (cr_sd c_X11_isLane) ckS_RX11_76 cd_X11_isLane rfl (Nat.le_of_ble_eq_true rfl) ⟨⟨by decide, by decide⟩, by decide, by decide⟩ rfl ?_
  refine aw_ifne_b 35 41 dX11_act_35 (by decide) (fun h35 => ?_) (fun h35 => ?_)
  · exact absurd h35 hl
  · refine aw_bipush 38 (-2) dX11_act_38 (by decide) ?_
    refine aw_iret 40 dX11_act_40 rfl (Nat.zero_le _) (Nat.zero_le _) ?_
    exact ⟨rfl, hR, α, hC⟩

set_option maxHeartbeats 4000000 in
set_option maxRecDepth 100000 in
theorem n3_X11_act {M0 : Mem} {τ : TT} {α : AT} {p k : Nat} {l i n : Int32} (hC : CW τ α M0) (hp : p < nP τ) (hk : k < 4) (hl : irg l 0 2) (hb : ¬ bar τ k l i n.toInt64 = 0) : CK mX11_act rmX11_act [.int (nI p), .int (nI k), .int l, .int i, .int n] M0 (.int (-10 - bar τ k l i n.toInt64)) (tu τ 0 0 (bar τ k l i n.toInt64)) := by
  refine am_of rfl rfl (ls := [some (.ref 2), some (.int (nI p)), some (.int (nI k)), some (.int l), some (.int i), some (.int n), none, none, none, none]) rfl ?_
  suffices HH : ∀ M, (CW τ α M) → (Kr M0 M) → AW mX11_act rmX11_act (fun r' M' => r' = (some (.int (-10 - bar τ k l i n.toInt64))) ∧ (fun M2 => Kr M0 M2 ∧ ∃ α2, CW (tu τ 0 0 (bar τ k l i n.toInt64)) α2 M2) M') 0 [some (.ref 2), some (.int (nI p)), some (.int (nI k)), some (.int l), some (.int i), some (.int n), none, none, none, none] [] M 0 0 from HH M0 hC (Kr.rf _)
  intro M hC hR
  refine aw_aload0 0 dX11_act_0 ?_
  refine aw_ic0 1 dX11_act_1 ?_
  refine fp_put 2 dX11_act_2 ckF_RX11_64_11 ckP11_12 hC.xo.1 rfl rfl (fun M hd => ?_)
  replace hR := hR.trans (hd.toWd.kp.kr hC.m1 (fun b q => by omega))
  replace hC := hC.flt hd
  clear hd
  refine aw_aload0 5 dX11_act_5 ?_
  refine aw_iload1 6 dX11_act_6 ?_
  refine cr_v1 7 dX11_act_7 (c_X11_pictureAt hC hp) ckV_RX11_106 cd_X11_pictureAt hC.xo.1 vc11 rfl rfl (Nat.le_of_ble_eq_true rfl) ⟨⟨by decide, by decide⟩, by decide, by decide⟩ rfl ?_
  refine aw_astore6 10 dX11_act_10 rfl ?_
  refine aw_aload0 12 dX11_act_12 ?_
  refine aw_iload2 13 dX11_act_13 ?_
  refine cr_v1 14 dX11_act_14 (c_X11_sheetAt hC hk) ckV_RX11_68 cd_X11_sheetAt hC.xo.1 vc11 rfl rfl (Nat.le_of_ble_eq_true rfl) ⟨⟨by decide, by decide⟩, by decide, by decide⟩ rfl ?_
  refine aw_astore7 17 dX11_act_17 rfl ?_
  refine aw_aload6 19 dX11_act_19 ?_
  refine aw_ifnull 21 dX11_act_21 ?_
  refine aw_aload7 24 dX11_act_24 ?_
  refine aw_ifnonnull 26 31 dX11_act_26 (by decide) ?_
  refine aw_iload3 31 dX11_act_31 ?_
  refine cr_s1 32 dX11_act_32 (cr_sd c_X11_isLane) ckS_RX11_76 cd_X11_isLane rfl (Nat.le_of_ble_eq_true rfl) ⟨⟨by decide, by decide⟩, by decide, by decide⟩ rfl ?_
  refine aw_ifne_b 35 41 dX11_act_35 (by decide) (fun h35 => ?_) (fun h35 => ?_)
  · refine aw_aload0 41 dX11_act_41 ?_
    refine aw_aload7 42 dX11_act_42 ?_
    refine aw_iload3 44 dX11_act_44 ?_
    refine aw_iload4 45 dX11_act_45 ?_
    refine aw_iload5 47 dX11_act_47 ?_
    refine ap_v1 49 dX11_act_49 (n_X11_readActs hC hk hb) ckV_RX11_168 cd_X11_readActs hC.xo.1 vc11 rfl rfl (Nat.le_of_ble_eq_true rfl) ⟨⟨by decide, by decide⟩, by decide, by decide⟩ rfl (fun M hd => ?_)
    replace hR := hR.trans (hd.toWd.kp.kr hC.m1 (fun b q => by omega))
    replace hC := hC.flt hd
    rw [tu_ch] at hC
    refine aw_istore8 52 dX11_act_52 rfl ?_
    refine aw_iload8 54 dX11_act_54 ?_
    refine aw_if_eq 56 62 dX11_act_56 (by decide) (fun h56 => ?_) (fun h56 => ?_)
    · exact absurd h56 (bar_nz hb)
    · refine aw_iload8 59 dX11_act_59 ?_
      refine aw_iret 61 dX11_act_61 rfl (Nat.zero_le _) (Nat.zero_le _) ?_
      exact ⟨rfl, hR, α, hC⟩
  · exact absurd hl h35

set_option maxHeartbeats 4000000 in
set_option maxRecDepth 100000 in
theorem n4_X11_act {M0 : Mem} {τ : TT} {α : AT} {p k i n e : Nat} {l : Int32} (hC : CW τ α M0) (hp : p < nP τ) (hk : k < 4) (hl : irg l 0 2) (h0 : ¬ τ 28 k < 0) (hll : τ 29 k = l) (hi : i + n ≤ ssz τ k) (hqr : rdA (fun j => τ 30 (60 * k + i + j)) n 5 0 [] = .inl e) : CK mX11_act rmX11_act [.int (nI p), .int (nI k), .int l, .int (nI i), .int (nI n)] M0 (.int (-100 - nI e)) (tu τ 0 0 0) := by
  refine am_of rfl rfl (ls := [some (.ref 2), some (.int (nI p)), some (.int (nI k)), some (.int l), some (.int (nI i)), some (.int (nI n)), none, none, none, none]) rfl ?_
  suffices HH : ∀ M, (CW τ α M) → (Kr M0 M) → AW mX11_act rmX11_act (fun r' M' => r' = (some (.int (-100 - nI e))) ∧ (fun M2 => Kr M0 M2 ∧ ∃ α2, CW (tu τ 0 0 0) α2 M2) M') 0 [some (.ref 2), some (.int (nI p)), some (.int (nI k)), some (.int l), some (.int (nI i)), some (.int (nI n)), none, none, none, none] [] M 0 0 from HH M0 hC (Kr.rf _)
  intro M hC hR
  have h60 := (hC.ws.ok hk h0).1
  have he := rdA_pos 5 0 [] e (Nat.zero_le n) hqr
  refine aw_aload0 0 dX11_act_0 ?_
  refine aw_ic0 1 dX11_act_1 ?_
  refine fp_put 2 dX11_act_2 ckF_RX11_64_11 ckP11_12 hC.xo.1 rfl rfl (fun M hd => ?_)
  replace hR := hR.trans (hd.toWd.kp.kr hC.m1 (fun b q => by omega))
  replace hC := hC.flt hd
  clear hd
  refine aw_aload0 5 dX11_act_5 ?_
  refine aw_iload1 6 dX11_act_6 ?_
  refine cr_v1 7 dX11_act_7 (c_X11_pictureAt hC hp) ckV_RX11_106 cd_X11_pictureAt hC.xo.1 vc11 rfl rfl (Nat.le_of_ble_eq_true rfl) ⟨⟨by decide, by decide⟩, by decide, by decide⟩ rfl ?_
  refine aw_astore6 10 dX11_act_10 rfl ?_
  refine aw_aload0 12 dX11_act_12 ?_
  refine aw_iload2 13 dX11_act_13 ?_
  refine cr_v1 14 dX11_act_14 (c_X11_sheetAt hC hk) ckV_RX11_68 cd_X11_sheetAt hC.xo.1 vc11 rfl rfl (Nat.le_of_ble_eq_true rfl) ⟨⟨by decide, by decide⟩, by decide, by decide⟩ rfl ?_
  refine aw_astore7 17 dX11_act_17 rfl ?_
  refine aw_aload6 19 dX11_act_19 ?_
  refine aw_ifnull 21 dX11_act_21 ?_
  refine aw_aload7 24 dX11_act_24 ?_
  refine aw_ifnonnull 26 31 dX11_act_26 (by decide) ?_
  refine aw_iload3 31 dX11_act_31 ?_
  refine cr_s1 32 dX11_act_32 (cr_sd c_X11_isLane) ckS_RX11_76 cd_X11_isLane rfl (Nat.le_of_ble_eq_true rfl) ⟨⟨by decide, by decide⟩, by decide, by decide⟩ rfl ?_
  refine aw_ifne_b 35 41 dX11_act_35 (by decide) (fun h35 => ?_) (fun h35 => ?_)
  · refine aw_aload0 41 dX11_act_41 ?_
    refine aw_aload7 42 dX11_act_42 ?_
    refine aw_iload3 44 dX11_act_44 ?_
    refine aw_iload4 45 dX11_act_45 ?_
    refine aw_iload5 47 dX11_act_47 ?_
    refine ap_v1 49 dX11_act_49 (c_X11_readActs hC hk h0 hll hi) ckV_RX11_168 cd_X11_readActs hC.xo.1 vc11 rfl rfl (Nat.le_of_ble_eq_true rfl) ⟨⟨by decide, by decide⟩, by decide, by decide⟩ rfl (fun M hr => ?_)
    replace hR := hR.trans (hr.1.kp.kr hC.m1 (fun b q => by unfold SR at q; omega))
    replace hC := hC.srr hr.1 hr.2.1
    rw [show rdA (fun j => tu τ 0 0 0 30 (60 * k + i + j)) n 5 0 [] = _ from hqr]
    refine aw_istore8 52 dX11_act_52 rfl ?_
    refine aw_iload8 54 dX11_act_54 ?_
    refine aw_if_eq 56 62 dX11_act_56 (by decide) (fun h56 => ?_) (fun h56 => ?_)
    · exact absurd h56 (raC_ne (by omega))
    · refine aw_iload8 59 dX11_act_59 ?_
      refine aw_iret 61 dX11_act_61 rfl (Nat.zero_le _) (Nat.zero_le _) ?_
      exact ⟨rfl, hR, α, hC⟩
  · exact absurd hl h35

set_option maxHeartbeats 4000000 in
set_option maxRecDepth 100000 in
theorem n5_X11_act {M0 : Mem} {τ : TT} {α : AT} {p k i n : Nat} {l : Int32} {ls : List (Int32 × Nat)} (hC : CW τ α M0) (hp : p < nP τ) (hk : k < 4) (hl : irg l 0 2) (h0 : ¬ τ 28 k < 0) (hll : τ 29 k = l) (hi : i + n ≤ ssz τ k) (hqr : rdA (fun j => τ 30 (60 * k + i + j)) n 5 0 [] = .inr ls) (hdl : dL (hOf τ p) ls = none) : CK mX11_act rmX11_act [.int (nI p), .int (nI k), .int l, .int (nI i), .int (nI n)] M0 (.int (-3)) (tu τ 0 0 0) := by
  refine am_of rfl rfl (ls := [some (.ref 2), some (.int (nI p)), some (.int (nI k)), some (.int l), some (.int (nI i)), some (.int (nI n)), none, none, none, none]) rfl ?_
  suffices HH : ∀ M, (CW τ α M) → (Kr M0 M) → AW mX11_act rmX11_act (fun r' M' => r' = (some (.int (-3))) ∧ (fun M2 => Kr M0 M2 ∧ ∃ α2, CW (tu τ 0 0 0) α2 M2) M') 0 [some (.ref 2), some (.int (nI p)), some (.int (nI k)), some (.int l), some (.int (nI i)), some (.int (nI n)), none, none, none, none] [] M 0 0 from HH M0 hC (Kr.rf _)
  intro M hC hR
  have hok := rdA_ok 5 0 [] ls hqr (fun _ q => absurd q List.not_mem_nil)
  have h12 := hC.wp.1.1
  have hkh := hOf_k hC.wp hC.sq hp
  refine aw_aload0 0 dX11_act_0 ?_
  refine aw_ic0 1 dX11_act_1 ?_
  refine fp_put 2 dX11_act_2 ckF_RX11_64_11 ckP11_12 hC.xo.1 rfl rfl (fun M hd => ?_)
  replace hR := hR.trans (hd.toWd.kp.kr hC.m1 (fun b q => by omega))
  replace hC := hC.flt hd
  clear hd
  refine aw_aload0 5 dX11_act_5 ?_
  refine aw_iload1 6 dX11_act_6 ?_
  refine cr_v1 7 dX11_act_7 (c_X11_pictureAt hC hp) ckV_RX11_106 cd_X11_pictureAt hC.xo.1 vc11 rfl rfl (Nat.le_of_ble_eq_true rfl) ⟨⟨by decide, by decide⟩, by decide, by decide⟩ rfl ?_
  refine aw_astore6 10 dX11_act_10 rfl ?_
  refine aw_aload0 12 dX11_act_12 ?_
  refine aw_iload2 13 dX11_act_13 ?_
  refine cr_v1 14 dX11_act_14 (c_X11_sheetAt hC hk) ckV_RX11_68 cd_X11_sheetAt hC.xo.1 vc11 rfl rfl (Nat.le_of_ble_eq_true rfl) ⟨⟨by decide, by decide⟩, by decide, by decide⟩ rfl ?_
  refine aw_astore7 17 dX11_act_17 rfl ?_
  refine aw_aload6 19 dX11_act_19 ?_
  refine aw_ifnull 21 dX11_act_21 ?_
  refine aw_aload7 24 dX11_act_24 ?_
  refine aw_ifnonnull 26 31 dX11_act_26 (by decide) ?_
  refine aw_iload3 31 dX11_act_31 ?_
  refine cr_s1 32 dX11_act_32 (cr_sd c_X11_isLane) ckS_RX11_76 cd_X11_isLane rfl (Nat.le_of_ble_eq_true rfl) ⟨⟨by decide, by decide⟩, by decide, by decide⟩ rfl ?_
  refine aw_ifne_b 35 41 dX11_act_35 (by decide) (fun h35 => ?_) (fun h35 => ?_)
  · refine aw_aload0 41 dX11_act_41 ?_
    refine aw_aload7 42 dX11_act_42 ?_
    refine aw_iload3 44 dX11_act_44 ?_
    refine aw_iload4 45 dX11_act_45 ?_
    refine aw_iload5 47 dX11_act_47 ?_
    refine ap_v1 49 dX11_act_49 (c_X11_readActs hC hk h0 hll hi) ckV_RX11_168 cd_X11_readActs hC.xo.1 vc11 rfl rfl (Nat.le_of_ble_eq_true rfl) ⟨⟨by decide, by decide⟩, by decide, by decide⟩ rfl (fun M hr => ?_)
    replace hR := hR.trans (hr.1.kp.kr hC.m1 (fun b q => by unfold SR at q; omega))
    replace hC := hC.srr hr.1 hr.2.1
    rw [show rdA (fun j => tu τ 0 0 0 30 (60 * k + i + j)) n 5 0 [] = _ from hqr]
    have hK9 := hr.2.2 ls hqr
    clear hr
    obtain ⟨wK, hgK, gK, hK⟩ := hC.sx.2.2
    have h49p := (hC.pc p hp).1
    refine aw_istore8 52 dX11_act_52 rfl ?_
    refine aw_iload8 54 dX11_act_54 ?_
    refine aw_if_eqN 56 62 (0) dX11_act_56 (by decide) rfl (by decide) (fun _ => ?_) (fun h => absurd h (by decide))
    refine aw_aload0 62 dX11_act_62 ?_
    refine aw_get 63 dX11_act_63 ckF_RX11_52_11 hC.xo.1 hC.xo.2.2.2.2.2.2.2.1 ?_
    refine aw_aload6 66 dX11_act_66 ?_
    refine aw_aload0 68 dX11_act_68 ?_
    refine aw_get 69 dX11_act_69 ckF_RX11_45_11 hC.xo.1 hC.xo.2.2.2.2.2.2.1 ?_
    refine aw_get 72 dX11_act_72 ckF_RX11_181_4 hC.sx.2.1.1 hC.sx.2.1.2.1 ?_
    refine aw_aload0 75 dX11_act_75 ?_
    refine aw_get 76 dX11_act_76 ckF_RX11_45_11 hC.xo.1 hC.xo.2.2.2.2.2.2.1 ?_
    refine aw_get 79 dX11_act_79 ckF_RX11_184_4 hC.sx.2.1.1 hK9.1 ?_
    refine ap_v1 82 dX11_act_82 (c_X10_perform (u := hOf τ p) hK (hC.pv hp) h49p hC.sx.2.1.2.2.2.1 (by decide) ⟨hK9.2.1, by decide⟩ hK9.2.2 hok (hOf_k hC.wp hC.sq hp)) ckV_RX11_187 cd_X10_perform hK.1 vc10 rfl rfl (Nat.le_of_ble_eq_true rfl) ⟨⟨by decide, by decide⟩, by decide, by decide⟩ rfl (fun M hq => ?_)
    replace hR := hR.trans (hq.1.kp.kr hC.m1 (fun b q => by unfold SW at q; omega))
    replace hC := hC.sww hq.1 hq.2.1
    rw [hdl] at hq ⊢
    refine aw_ifne_b 85 91 dX11_act_85 (by decide) (fun h85 => ?_) (fun h85 => ?_)
    · exact absurd h85 (by decide)
    · refine aw_bipush 88 (-3) dX11_act_88 (by decide) ?_
      refine aw_iret 90 dX11_act_90 rfl (Nat.zero_le _) (Nat.zero_le _) ?_
      exact ⟨rfl, hR, α, hC⟩
  · exact absurd hl h35

set_option maxHeartbeats 4000000 in
set_option maxRecDepth 100000 in
theorem n6_X11_act {M0 : Mem} {τ : TT} {α : AT} {p k i n : Nat} {l : Int32} {ls : List (Int32 × Nat)} {u : HS} (hC : CW τ α M0) (hp : p < nP τ) (hk : k < 4) (hl : irg l 0 2) (h0 : ¬ τ 28 k < 0) (hll : τ 29 k = l) (hi : i + n ≤ ssz τ k) (hqr : rdA (fun j => τ 30 (60 * k + i + j)) n 5 0 [] = .inr ls) (hdl : dL (hOf τ p) ls = some u) (hf : nP τ = 12) : CK mX11_act rmX11_act [.int (nI p), .int (nI k), .int l, .int (nI i), .int (nI n)] M0 (.int (-4)) (tu τ 0 0 0) := by
  refine am_of rfl rfl (ls := [some (.ref 2), some (.int (nI p)), some (.int (nI k)), some (.int l), some (.int (nI i)), some (.int (nI n)), none, none, none, none]) rfl ?_
  suffices HH : ∀ M, (CW τ α M) → (Kr M0 M) → AW mX11_act rmX11_act (fun r' M' => r' = (some (.int (-4))) ∧ (fun M2 => Kr M0 M2 ∧ ∃ α2, CW (tu τ 0 0 0) α2 M2) M') 0 [some (.ref 2), some (.int (nI p)), some (.int (nI k)), some (.int l), some (.int (nI i)), some (.int (nI n)), none, none, none, none] [] M 0 0 from HH M0 hC (Kr.rf _)
  intro M hC hR
  have hok := rdA_ok 5 0 [] ls hqr (fun _ q => absurd q List.not_mem_nil)
  have h12 := hC.wp.1.1
  have hkh := hOf_k hC.wp hC.sq hp
  refine aw_aload0 0 dX11_act_0 ?_
  refine aw_ic0 1 dX11_act_1 ?_
  refine fp_put 2 dX11_act_2 ckF_RX11_64_11 ckP11_12 hC.xo.1 rfl rfl (fun M hd => ?_)
  replace hR := hR.trans (hd.toWd.kp.kr hC.m1 (fun b q => by omega))
  replace hC := hC.flt hd
  clear hd
  refine aw_aload0 5 dX11_act_5 ?_
  refine aw_iload1 6 dX11_act_6 ?_
  refine cr_v1 7 dX11_act_7 (c_X11_pictureAt hC hp) ckV_RX11_106 cd_X11_pictureAt hC.xo.1 vc11 rfl rfl (Nat.le_of_ble_eq_true rfl) ⟨⟨by decide, by decide⟩, by decide, by decide⟩ rfl ?_
  refine aw_astore6 10 dX11_act_10 rfl ?_
  refine aw_aload0 12 dX11_act_12 ?_
  refine aw_iload2 13 dX11_act_13 ?_
  refine cr_v1 14 dX11_act_14 (c_X11_sheetAt hC hk) ckV_RX11_68 cd_X11_sheetAt hC.xo.1 vc11 rfl rfl (Nat.le_of_ble_eq_true rfl) ⟨⟨by decide, by decide⟩, by decide, by decide⟩ rfl ?_
  refine aw_astore7 17 dX11_act_17 rfl ?_
  refine aw_aload6 19 dX11_act_19 ?_
  refine aw_ifnull 21 dX11_act_21 ?_
  refine aw_aload7 24 dX11_act_24 ?_
  refine aw_ifnonnull 26 31 dX11_act_26 (by decide) ?_
  refine aw_iload3 31 dX11_act_31 ?_
  refine cr_s1 32 dX11_act_32 (cr_sd c_X11_isLane) ckS_RX11_76 cd_X11_isLane rfl (Nat.le_of_ble_eq_true rfl) ⟨⟨by decide, by decide⟩, by decide, by decide⟩ rfl ?_
  refine aw_ifne_b 35 41 dX11_act_35 (by decide) (fun h35 => ?_) (fun h35 => ?_)
  · refine aw_aload0 41 dX11_act_41 ?_
    refine aw_aload7 42 dX11_act_42 ?_
    refine aw_iload3 44 dX11_act_44 ?_
    refine aw_iload4 45 dX11_act_45 ?_
    refine aw_iload5 47 dX11_act_47 ?_
    refine ap_v1 49 dX11_act_49 (c_X11_readActs hC hk h0 hll hi) ckV_RX11_168 cd_X11_readActs hC.xo.1 vc11 rfl rfl (Nat.le_of_ble_eq_true rfl) ⟨⟨by decide, by decide⟩, by decide, by decide⟩ rfl (fun M hr => ?_)
    replace hR := hR.trans (hr.1.kp.kr hC.m1 (fun b q => by unfold SR at q; omega))
    replace hC := hC.srr hr.1 hr.2.1
    rw [show rdA (fun j => tu τ 0 0 0 30 (60 * k + i + j)) n 5 0 [] = _ from hqr]
    have hK9 := hr.2.2 ls hqr
    clear hr
    obtain ⟨wK, hgK, gK, hK⟩ := hC.sx.2.2
    have h49p := (hC.pc p hp).1
    refine aw_istore8 52 dX11_act_52 rfl ?_
    refine aw_iload8 54 dX11_act_54 ?_
    refine aw_if_eqN 56 62 (0) dX11_act_56 (by decide) rfl (by decide) (fun _ => ?_) (fun h => absurd h (by decide))
    refine aw_aload0 62 dX11_act_62 ?_
    refine aw_get 63 dX11_act_63 ckF_RX11_52_11 hC.xo.1 hC.xo.2.2.2.2.2.2.2.1 ?_
    refine aw_aload6 66 dX11_act_66 ?_
    refine aw_aload0 68 dX11_act_68 ?_
    refine aw_get 69 dX11_act_69 ckF_RX11_45_11 hC.xo.1 hC.xo.2.2.2.2.2.2.1 ?_
    refine aw_get 72 dX11_act_72 ckF_RX11_181_4 hC.sx.2.1.1 hC.sx.2.1.2.1 ?_
    refine aw_aload0 75 dX11_act_75 ?_
    refine aw_get 76 dX11_act_76 ckF_RX11_45_11 hC.xo.1 hC.xo.2.2.2.2.2.2.1 ?_
    refine aw_get 79 dX11_act_79 ckF_RX11_184_4 hC.sx.2.1.1 hK9.1 ?_
    refine ap_v1 82 dX11_act_82 (c_X10_perform (u := hOf τ p) hK (hC.pv hp) h49p hC.sx.2.1.2.2.2.1 (by decide) ⟨hK9.2.1, by decide⟩ hK9.2.2 hok (hOf_k hC.wp hC.sq hp)) ckV_RX11_187 cd_X10_perform hK.1 vc10 rfl rfl (Nat.le_of_ble_eq_true rfl) ⟨⟨by decide, by decide⟩, by decide, by decide⟩ rfl (fun M hq => ?_)
    replace hR := hR.trans (hq.1.kp.kr hC.m1 (fun b q => by unfold SW at q; omega))
    replace hC := hC.sww hq.1 hq.2.1
    rw [hdl] at hq ⊢
    refine aw_ifne_b 85 91 dX11_act_85 (by decide) (fun h85 => ?_) (fun h85 => ?_)
    · refine aw_aload0 91 dX11_act_91 ?_
      refine aw_get 92 dX11_act_92 ckF_RX11_92_11 hC.xo.1 (hC.xo.2.2.2.2.2.2.2.2.2.1.trans (congrArg Value.int hC.wp.1.2)) ?_
      refine aw_bipush 95 12 dX11_act_95 (by decide) ?_
      refine aw_icmp_ltN 97 103 (nP τ) (12) dX11_act_97 (by decide) rfl rfl (by omega) (by omega) (fun h97 => ?_) (fun h97 => ?_)
      · exact absurd h97 (by omega)
      · refine aw_bipush 100 (-4) dX11_act_100 (by decide) ?_
        refine aw_iret 102 dX11_act_102 rfl (Nat.zero_le _) (Nat.zero_le _) ?_
        exact ⟨rfl, hR, α, hC⟩
    · exact absurd rfl h85
  · exact absurd hl h35

set_option maxHeartbeats 4000000 in
set_option maxRecDepth 100000 in
theorem c_X11_act {M0 : Mem} {τ : TT} {α : AT} {p k i n : Nat} {l : Int32} {ls : List (Int32 × Nat)} {u : HS} (hC : CW τ α M0) (hp : p < nP τ) (hk : k < 4) (hl : irg l 0 2) (h0 : ¬ τ 28 k < 0) (hll : τ 29 k = l) (hi : i + n ≤ ssz τ k) (hqr : rdA (fun j => τ 30 (60 * k + i + j)) n 5 0 [] = .inr ls) (hdl : dL (hOf τ p) ls = some u) (hf : ¬ nP τ = 12) : CK mX11_act rmX11_act [.int (nI p), .int (nI k), .int l, .int (nI i), .int (nI n)] M0 (.int (nI (nP τ))) (tAc τ u) := by
  refine am_of rfl rfl (ls := [some (.ref 2), some (.int (nI p)), some (.int (nI k)), some (.int l), some (.int (nI i)), some (.int (nI n)), none, none, none, none]) rfl ?_
  suffices HH : ∀ M, (CW τ α M) → (Kr M0 M) → AW mX11_act rmX11_act (fun r' M' => r' = (some (.int (nI (nP τ)))) ∧ (fun M2 => Kr M0 M2 ∧ ∃ α2, CW (tAc τ u) α2 M2) M') 0 [some (.ref 2), some (.int (nI p)), some (.int (nI k)), some (.int l), some (.int (nI i)), some (.int (nI n)), none, none, none, none] [] M 0 0 from HH M0 hC (Kr.rf _)
  intro M hC hR
  have hok := rdA_ok 5 0 [] ls hqr (fun _ q => absurd q List.not_mem_nil)
  have h12 := hC.wp.1.1
  have hkh := hOf_k hC.wp hC.sq hp
  refine aw_aload0 0 dX11_act_0 ?_
  refine aw_ic0 1 dX11_act_1 ?_
  refine fp_put 2 dX11_act_2 ckF_RX11_64_11 ckP11_12 hC.xo.1 rfl rfl (fun M hd => ?_)
  replace hR := hR.trans (hd.toWd.kp.kr hC.m1 (fun b q => by omega))
  replace hC := hC.flt hd
  clear hd
  refine aw_aload0 5 dX11_act_5 ?_
  refine aw_iload1 6 dX11_act_6 ?_
  refine cr_v1 7 dX11_act_7 (c_X11_pictureAt hC hp) ckV_RX11_106 cd_X11_pictureAt hC.xo.1 vc11 rfl rfl (Nat.le_of_ble_eq_true rfl) ⟨⟨by decide, by decide⟩, by decide, by decide⟩ rfl ?_
  refine aw_astore6 10 dX11_act_10 rfl ?_
  refine aw_aload0 12 dX11_act_12 ?_
  refine aw_iload2 13 dX11_act_13 ?_
  refine cr_v1 14 dX11_act_14 (c_X11_sheetAt hC hk) ckV_RX11_68 cd_X11_sheetAt hC.xo.1 vc11 rfl rfl (Nat.le_of_ble_eq_true rfl) ⟨⟨by decide, by decide⟩, by decide, by decide⟩ rfl ?_
  refine aw_astore7 17 dX11_act_17 rfl ?_
  refine aw_aload6 19 dX11_act_19 ?_
  refine aw_ifnull 21 dX11_act_21 ?_
  refine aw_aload7 24 dX11_act_24 ?_
  refine aw_ifnonnull 26 31 dX11_act_26 (by decide) ?_
  refine aw_iload3 31 dX11_act_31 ?_
  refine cr_s1 32 dX11_act_32 (cr_sd c_X11_isLane) ckS_RX11_76 cd_X11_isLane rfl (Nat.le_of_ble_eq_true rfl) ⟨⟨by decide, by decide⟩, by decide, by decide⟩ rfl ?_
  refine aw_ifne_b 35 41 dX11_act_35 (by decide) (fun h35 => ?_) (fun h35 => ?_)
  · refine aw_aload0 41 dX11_act_41 ?_
    refine aw_aload7 42 dX11_act_42 ?_
    refine aw_iload3 44 dX11_act_44 ?_
    refine aw_iload4 45 dX11_act_45 ?_
    refine aw_iload5 47 dX11_act_47 ?_
    refine ap_v1 49 dX11_act_49 (c_X11_readActs hC hk h0 hll hi) ckV_RX11_168 cd_X11_readActs hC.xo.1 vc11 rfl rfl (Nat.le_of_ble_eq_true rfl) ⟨⟨by decide, by decide⟩, by decide, by decide⟩ rfl (fun M hr => ?_)
    replace hR := hR.trans (hr.1.kp.kr hC.m1 (fun b q => by unfold SR at q; omega))
    replace hC := hC.srr hr.1 hr.2.1
    rw [show rdA (fun j => tu τ 0 0 0 30 (60 * k + i + j)) n 5 0 [] = _ from hqr]
    have hK9 := hr.2.2 ls hqr
    clear hr
    obtain ⟨wK, hgK, gK, hK⟩ := hC.sx.2.2
    have h49p := (hC.pc p hp).1
    refine aw_istore8 52 dX11_act_52 rfl ?_
    refine aw_iload8 54 dX11_act_54 ?_
    refine aw_if_eqN 56 62 (0) dX11_act_56 (by decide) rfl (by decide) (fun _ => ?_) (fun h => absurd h (by decide))
    refine aw_aload0 62 dX11_act_62 ?_
    refine aw_get 63 dX11_act_63 ckF_RX11_52_11 hC.xo.1 hC.xo.2.2.2.2.2.2.2.1 ?_
    refine aw_aload6 66 dX11_act_66 ?_
    refine aw_aload0 68 dX11_act_68 ?_
    refine aw_get 69 dX11_act_69 ckF_RX11_45_11 hC.xo.1 hC.xo.2.2.2.2.2.2.1 ?_
    refine aw_get 72 dX11_act_72 ckF_RX11_181_4 hC.sx.2.1.1 hC.sx.2.1.2.1 ?_
    refine aw_aload0 75 dX11_act_75 ?_
    refine aw_get 76 dX11_act_76 ckF_RX11_45_11 hC.xo.1 hC.xo.2.2.2.2.2.2.1 ?_
    refine aw_get 79 dX11_act_79 ckF_RX11_184_4 hC.sx.2.1.1 hK9.1 ?_
    refine ap_v1 82 dX11_act_82 (c_X10_perform (u := hOf τ p) hK (hC.pv hp) h49p hC.sx.2.1.2.2.2.1 (by decide) ⟨hK9.2.1, by decide⟩ hK9.2.2 hok (hOf_k hC.wp hC.sq hp)) ckV_RX11_187 cd_X10_perform hK.1 vc10 rfl rfl (Nat.le_of_ble_eq_true rfl) ⟨⟨by decide, by decide⟩, by decide, by decide⟩ rfl (fun M hq => ?_)
    replace hR := hR.trans (hq.1.kp.kr hC.m1 (fun b q => by unfold SW at q; omega))
    replace hC := hC.sww hq.1 hq.2.1
    rw [hdl] at hq ⊢
    refine aw_ifne_b 85 91 dX11_act_85 (by decide) (fun h85 => ?_) (fun h85 => ?_)
    · have hku := dL_k hkh hok hdl
      replace hK := hq.2.2 u rfl
      refine aw_aload0 91 dX11_act_91 ?_
      refine aw_get 92 dX11_act_92 ckF_RX11_92_11 hC.xo.1 (hC.xo.2.2.2.2.2.2.2.2.2.1.trans (congrArg Value.int hC.wp.1.2)) ?_
      refine aw_bipush 95 12 dX11_act_95 (by decide) ?_
      refine aw_icmp_ltN 97 103 (nP τ) (12) dX11_act_97 (by decide) rfl rfl (by omega) (by omega) (fun h97 => ?_) (fun h97 => ?_)
      · have hm := hC.m1
        obtain ⟨A, hA⟩ : ∃ A, M.1 = A := ⟨_, rfl⟩
        have hCb := hC
        refine aw_aload0 103 dX11_act_103 ?_
        refine ap_v 104 dX11_act_104 (c_X11_addPicture hC hA (by show nP τ < 12; omega)) ckV_RX11_95 cd_X11_addPicture hC.xo.1 vc11 rfl rfl (Nat.le_of_ble_eq_true rfl) ⟨⟨by decide, by decide⟩, by decide, by decide⟩ (fun M hN => ?_)
        obtain ⟨hM1, hk1, hP, hsl, hso, hx⟩ := hN
        replace hR := hR.trans (hk1.kr hm (fun b q => by omega))
        have hB := hK.pv.kp hk1 (by omega) (by omega) (by omega)
        have hK2 : M.2.1 12 = (10, 2) ∧ M.2.2 12 0 = .ref 13 := ⟨(hk1.2.1 12 (by omega)).trans hK.1, (congrFun (hk1.2.2 12 (by omega) (by omega)) _).trans hK.2.1⟩
        refine aw_astore9 107 dX11_act_107 rfl ?_
        refine aw_aload9 109 dX11_act_109 ?_
        refine aw_aload0 111 dX11_act_111 ?_
        refine aw_get 112 dX11_act_112 ckF_RX11_52_11 hx.1 hx.2.2.2.2.2.2.2.1 ?_
        refine aw_get 115 dX11_act_115 ckF_RX11_191_10 hK2.1 hK2.2 ?_
        refine ap_v0 118 dX11_act_118 (c_X3_become hP hB (by omega) (by decide) (by omega)) ckV_RX11_195 cd_X3_become hP.1 vc3 rfl rfl (Nat.le_of_ble_eq_true rfl) ⟨⟨by decide, by decide⟩, by decide, by decide⟩ rfl (fun M hq2 => ?_)
        have h49 : 49 ≤ A := by omega
        replace hR := hR.trans (hq2.1.kp.kr (by omega) (fun b q => by omega))
        replace hsl := (congrFun (hq2.1.2.2 3 (by omega)) _).trans hsl
        replace hso := fun q (hq3 : q < nP τ) => (congrFun (hq2.1.2.2 3 (by omega)) q).trans (hso q hq3)
        replace hx := hx.kp hq2.1.kp (by omega) (by omega)
        replace hk1 := hk1.frs2 hq2.1 (fun b q => by omega)
        replace hP := hq2.2
        replace hC := hCb.acw hku (by omega) hA (by rw [hq2.1.1]; omega) hk1 hP hsl hso hx
        refine aw_aload9 121 dX11_act_121 ?_
        refine aw_get 123 dX11_act_123 ckF_RX11_103_3 hP.1 hP.2.1 ?_
        refine aw_iret 126 dX11_act_126 rfl (by decide) (by decide) ?_
        exact ⟨rfl, hR, _, hC⟩
      · exact absurd h97 (by omega)
    · exact absurd rfl h85
  · exact absurd hl h35

