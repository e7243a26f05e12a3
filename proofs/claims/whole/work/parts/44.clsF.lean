theorem bar_nz {τ : TT} {k : Nat} {lane i : Int32} {c : Int64} (h : ¬ bar τ k lane i c = 0) : ¬ -10 - bar τ k lane i c = 0 := fun q => by
  have := bar_neg h
  rw [q] at this
  exact this (by decide)

/-! the class: lines written (gen/clsF.py) -/
section
variable {τ : TT} {α : AT} {M M' : Mem}
theorem wrt_at {p l : Nat} {k f h : Int32} : wrt τ p l k f h 16 p = k ∧ wrt τ p l k f h 17 p = nI l ∧ wrt τ p l k f h 18 p = h ∧ wrt τ p l k f h 19 p = slv τ p l h ∧ wrt τ p l k f h 20 p = f ∧ wrt τ p l k f h 21 p = 0 := by
  refine ⟨?_, ?_, ?_, ?_, ?_, ?_⟩
  · show tu τ 16 p k 16 p = k; exact tu_at
  · show tu (tu τ 16 p k) 17 p (nI l) 17 p = nI l; exact tu_at
  · show tu (tu (tu τ 16 p k) 17 p (nI l)) 18 p h 18 p = h; exact tu_at
  · show tu (lay (tu (tu (tu (tu τ 16 p k) 17 p (nI l)) 18 p h) 20 p f) p) 19 p (slv τ p l h) 19 p = slv τ p l h; exact tu_at
  · show tu (tu (tu (tu τ 16 p k) 17 p (nI l)) 18 p h) 20 p f 20 p = f; exact tu_at
  · exact tu_at
theorem wrt_nq {p l q : Nat} {k f h : Int32} (hq : q ≠ p) : wrt τ p l k f h 16 q = τ 16 q ∧ wrt τ p l k f h 17 q = τ 17 q ∧ wrt τ p l k f h 18 q = τ 18 q ∧ wrt τ p l k f h 19 q = τ 19 q ∧ wrt τ p l k f h 20 q = τ 20 q ∧ wrt τ p l k f h 21 q = τ 21 q ∧ ∀ j, j < 25 → wrt τ p l k f h 22 (25 * q + j) = τ 22 (25 * q + j) := by
  refine ⟨?_, ?_, ?_, ?_, ?_, ?_, fun _ _ => rfl⟩
  · show tu τ 16 p k 16 q = _; exact tu_nk hq
  · show tu (tu τ 16 p k) 17 p (nI l) 17 q = _; exact (tu_nk hq)
  · show tu (tu (tu τ 16 p k) 17 p (nI l)) 18 p h 18 q = _; exact (tu_nk hq)
  · show tu (lay (tu (tu (tu (tu τ 16 p k) 17 p (nI l)) 18 p h) 20 p f) p) 19 p (slv τ p l h) 19 q = _; exact (tu_nk hq)
  · show tu (tu (tu (tu τ 16 p k) 17 p (nI l)) 18 p h) 20 p f 20 q = _; exact (tu_nk hq)
  · exact (tu_nk hq)
theorem hr_nat {h : Int32} (hh : irg h 0 999) : ∃ z, z < 1000 ∧ h = nI z := by
  obtain ⟨z, z1, z2⟩ := irg_of (b := 999) (by decide) hh
  exact ⟨z, by omega, z2⟩
/-- a line of one who took it -/
theorem CW.tak {p l A : Nat} {h : Int32} (hC : CW τ α M) (hp : p < nP τ) (hl : l < nL τ) (hh : irg h 0 999) (hA : 49 ≤ A ∧ A < M.1) (hk : M.2.1 A = (7, 3)) (f0 : M.2.2 A 0 = .ref (α 1 l)) (f1 : M.2.2 A 1 = .int h) (f2 : M.2.2 A 2 = .int (slv τ p l h)) (f : Wf (α 0 p) 4 (.ref A) M M') : CW (wrt τ p l 0 (-9) h) (au α 3 p A) M' := by
  obtain ⟨w16, w17, w18, w19, w20, w21⟩ := wrt_at (τ := τ) (p := p) (l := l) (k := 0) (f := -9) (h := h)
  have h6 := hC.wl.1
  refine hC.lnw (τ' := wrt τ p l 0 (-9) h) (α' := au α 3 p A) hp f ?_ ?_ (fun i a b c d e g q r => wrt_ne' ⟨a, b, c, d, e, g, q⟩) (fun q hq => wrt_nq hq) ⟨rfl, rfl, rfl, fun q hq => ⟨au_ne (by omega), rfl⟩⟩ (Or.inr ⟨Or.inl w16, ⟨l, hl, w17⟩, ?_, fun q => absurd w16 q, fun q => absurd (w16.symm.trans q) (by decide)⟩)
  · unfold pap; rw [w16, au_at]; rfl
  · intro _
    refine ⟨by rw [au_at]; exact hA.1, by rw [au_at]; exact hA.2, Or.inl ⟨w16, ?_⟩⟩
    rw [au_at, dgt_n w17 (by omega), w18, w19]
    exact ⟨hk, f0, f1, f2, w20, w21⟩
  · rw [w18]; exact hr_nat hh
/-- a line that says no more than that something was done -/
theorem CW.hsh {p l A o : Nat} {h : Int32} (hC : CW τ α M) (hp : p < nP τ) (hl : l < nL τ) (ho : o < p) (hh : irg h 0 999) (hA : 49 ≤ A ∧ A < M.1) (hk : M.2.1 A = (6, 5)) (f2 : M.2.2 A 2 = .ref (α 1 l)) (f3 : M.2.2 A 3 = .int h) (f4 : M.2.2 A 4 = .int (slv τ p l h)) (f0 : M.2.2 A 0 = .ref (α 0 o)) (f1 : M.2.2 A 1 = .ref 1) (f : Wf (α 0 p) 4 (.ref A) M M') : CW (wrt τ p l 2 (nI o) h) (au α 3 p A) M' := by
  obtain ⟨w16, w17, w18, w19, w20, w21⟩ := wrt_at (τ := τ) (p := p) (l := l) (k := 2) (f := nI o) (h := h)
  have h6 := hC.wl.1
  have h12 := hC.wp.1.1
  refine hC.lnw (τ' := wrt τ p l 2 (nI o) h) (α' := au α 3 p A) hp f ?_ ?_ (fun i a b c d e g q r => wrt_ne' ⟨a, b, c, d, e, g, q⟩) (fun q hq => wrt_nq hq) ⟨rfl, rfl, rfl, fun q hq => ⟨au_ne (by omega), rfl⟩⟩ (Or.inr ⟨Or.inr (Or.inr w16), ⟨l, hl, w17⟩, ?_, fun _ => ⟨o, ho, w20⟩, fun q => absurd (w16.symm.trans q) (by decide)⟩)
  · unfold pap; rw [w16, au_at]; rfl
  · intro _
    refine ⟨by rw [au_at]; exact hA.1, by rw [au_at]; exact hA.2, Or.inr (Or.inr ⟨w16, ?_⟩)⟩
    rw [au_at, dgt_n w17 (by omega), w18, w19, dgt_n w20 (by omega)]
    exact ⟨hk, f2, f3, f4, f0, f1, w21⟩
  · rw [w18]; exact hr_nat hh
theorem tCh_0 {p l o m : Nat} {h : Int32} {A : Nat → Int32} {i : Nat} (hi : i ≠ 5 ∧ i ≠ 16 ∧ i ≠ 17 ∧ i ≠ 18 ∧ i ≠ 19 ∧ i ≠ 20 ∧ i ≠ 21 ∧ i ≠ 22) : tCh τ p l o h m A i = tu τ 0 0 0 i := by
  have e : (ov (tu (wrt τ p l 1 (nI o) h) 21 p (nI m)) 22 (25 * p) (25 * p + 5 * m) (fun b => A (b - 25 * p))) i = τ i := by rw [ov_ne hi.2.2.2.2.2.2.2, tu_ne hi.2.2.2.2.2.2.1, wrt_ne' ⟨hi.1, hi.2.1, hi.2.2.1, hi.2.2.2.1, hi.2.2.2.2.1, hi.2.2.2.2.2.1, hi.2.2.2.2.2.2.1⟩]
  funext b
  show (if i = 0 ∧ b = 0 then 0 else (ov (tu (wrt τ p l 1 (nI o) h) 21 p (nI m)) 22 (25 * p) (25 * p + 5 * m) (fun b => A (b - 25 * p))) i b) = (if i = 0 ∧ b = 0 then 0 else τ i b)
  rw [e]
/-- a line that says what was done -/
theorem CW.chg {p l A B o : Nat} {h : Int32} {ls : List (Int32 × Nat)} {Af : Nat → Int32} (hC : CW (tu τ 0 0 0) α M) (hp : p < nP τ) (hl : l < nL τ) (ho : o < p) (hh : irg h 0 999) (hA : 49 ≤ A ∧ A < M.1) (hB : 49 ≤ B ∧ B < M.1) (hk : M.2.1 A = (0, 5)) (f0 : M.2.2 A 0 = .ref (α 1 l)) (f1 : M.2.2 A 1 = .int h) (f2 : M.2.2 A 2 = .int (slv τ p l h)) (f3 : M.2.2 A 3 = .ref (α 0 o)) (f4 : M.2.2 A 4 = .ref B) (h5 : ls.length ≤ 5) (hok : ∀ q, q ∈ ls → okA q) (hkb : M.2.1 B = (20, ls.length)) (hka : KA M B ls) (hAf : ∀ j, j < ls.length → ∃ a, ls[j]? = some a ∧ actR Af (5 * j) a) (f : Wf (α 0 p) 4 (.ref A) M M') : CW (tCh τ p l o h ls.length Af) (au (au α 3 p A) 4 p B) M' := by
  obtain ⟨v16, v17, v18, v19, v20, -⟩ := wrt_at (τ := τ) (p := p) (l := l) (k := 1) (f := nI o) (h := h)
  have w16 : tCh τ p l o h ls.length Af 16 p = 1 := v16
  have w17 : tCh τ p l o h ls.length Af 17 p = nI l := v17
  have w18 : tCh τ p l o h ls.length Af 18 p = h := v18
  have w19 : tCh τ p l o h ls.length Af 19 p = slv τ p l h := v19
  have w20 : tCh τ p l o h ls.length Af 20 p = nI o := v20
  have w21 : tCh τ p l o h ls.length Af 21 p = nI ls.length := by show tu (wrt τ p l 1 (nI o) h) 21 p (nI ls.length) 21 p = _; exact tu_at
  have w22 : ∀ j, j < 5 * ls.length → tCh τ p l o h ls.length Af 22 (25 * p + j) = Af j := fun j hj => by
    show ov (tu (wrt τ p l 1 (nI o) h) 21 p (nI ls.length)) 22 (25 * p) (25 * p + 5 * ls.length) (fun b => Af (b - 25 * p)) 22 (25 * p + j) = _
    rw [ov_in (by omega), show 25 * p + j - 25 * p = j by omega]
  have hacts : ∀ j, j < ls.length → ∃ a, ls[j]? = some a ∧ actR (tCh τ p l o h ls.length Af 22) (25 * p + 5 * j) a := fun j hj => by
    obtain ⟨a, a1, a2, a3, a4⟩ := hAf j hj
    have e : ∀ i, i < 5 → tCh τ p l o h ls.length Af 22 (25 * p + 5 * j + i) = Af (5 * j + i) := fun i hi => by rw [show 25 * p + 5 * j + i = 25 * p + (5 * j + i) by omega]; exact w22 _ (by omega)
    refine ⟨a, a1, (e 0 (by omega)).trans a2, fun q => ?_, fun q => (e 1 (by omega)).trans (a4 q)⟩
    obtain ⟨b1, b2, b3, b4⟩ := a3 q
    exact ⟨(e 1 (by omega)).trans b1, (e 2 (by omega)).trans b2, (e 3 (by omega)).trans b3, (e 4 (by omega)).trans b4⟩
  have h6 : nL τ ≤ 6 := hC.wl.1
  have h12 : nP τ ≤ 12 := hC.wp.1.1
  refine hC.lnw (τ' := tCh τ p l o h ls.length Af) (α' := au (au α 3 p A) 4 p B) hp f ?_ ?_ (fun i a b c d e g q r => tCh_0 ⟨a, b, c, d, e, g, q, r⟩) (fun q hq => ?_) ⟨rfl, rfl, rfl, fun q hq => ⟨by rw [au_ne (by omega), au_ne (by omega)], by rw [au_ne (by omega), au_ne (by omega)]⟩⟩ (Or.inr ⟨Or.inr (Or.inl w16), ⟨l, hl, w17⟩, ?_, fun _ => ⟨o, ho, w20⟩, fun _ => ⟨ls.length, h5, w21, fun j hj => ?_⟩⟩)
  · unfold pap; rw [w16, au_ne (by omega), au_at]; rfl
  · intro _
    have e3 : au (au α 3 p A) 4 p B 3 p = A := by rw [au_ne (by omega), au_at]
    refine ⟨by rw [e3]; exact hA.1, by rw [e3]; exact hA.2, Or.inr (Or.inl ⟨w16, ?_⟩)⟩
    rw [e3, dgt_n w17 (by omega), w18, w19, dgt_n w20 (by omega), au_at]
    exact ⟨hk, f0, f1, f2, f3, f4, hB.1, hB.2, ls, h5, hok, w21, hkb, hka, hacts⟩
  · obtain ⟨z16, z17, z18, z19, z20, z21, z22⟩ := wrt_nq (τ := τ) (p := p) (l := l) (k := 1) (f := nI o) (h := h) hq
    refine ⟨z16, z17, z18, z19, z20, ?_, fun j hj => ?_⟩
    · show tu (wrt τ p l 1 (nI o) h) 21 p (nI ls.length) 21 q = _
      rw [tu_nk hq]; exact z21
    · show ov (tu (wrt τ p l 1 (nI o) h) 21 p (nI ls.length)) 22 (25 * p) (25 * p + 5 * ls.length) (fun b => Af (b - 25 * p)) 22 (25 * q + j) = _
      rw [ov_out (by omega)]; rfl
  · rw [w18]; exact hr_nat hh
  · obtain ⟨a, a1, a2⟩ := hacts j hj
    exact actR_OK a2 (hok a (List.mem_of_getElem? a1))
theorem RDK.kp {S : Nat → Prop} {l : List (Int32 × Nat)} (h : RDK M l) (k : Kp S M M') (hm : 49 ≤ M.1) (h9 : ¬ S 9) (h10 : ¬ S 10) : RDK M' l := ⟨by rw [k.2.2 9 (by omega) h9]; exact h.1, h.2.1, h.2.2.kp k (by omega) h10⟩
theorem raC_ne {e : Nat} (h : e ≤ 100) : ¬ -100 - nI e = 0 := by
  intro q
  have := congrArg Int32.toInt q
  rw [i32s (by rw [nI_toInt (by omega), show (-100 : Int32).toInt = -100 by decide]; omega) (by rw [nI_toInt (by omega), show (-100 : Int32).toInt = -100 by decide]; omega), nI_toInt (by omega), show (-100 : Int32).toInt = -100 by decide, show (0 : Int32).toInt = 0 by decide] at this
  omega
end

def rmX11_take : Room := { frames := 3, cells := 1, slots := 3, locals := 66 }
set_option maxHeartbeats 4000000 in
set_option maxRecDepth 100000 in
theorem n_X11_take {M0 : Mem} {τ : TT} {α : AT} {v w h : Int32} (hC : CW τ α M0) (hno : ¬ ir v (nP τ)) (hno2 : ¬ ir w (nL τ)) : CK mX11_take rmX11_take [.int v, .int w, .int h] M0 (.int (-1)) (τ) := by
  refine am_of rfl rfl (ls := [some (.ref 2), some (.int v), some (.int w), some (.int h), none, none]) rfl ?_
  suffices HH : ∀ M, (CW τ α M) → (Kr M0 M) → AW mX11_take rmX11_take (fun r' M' => r' = (some (.int (-1))) ∧ (fun M2 => Kr M0 M2 ∧ ∃ α2, CW (τ) α2 M2) M') 0 [some (.ref 2), some (.int v), some (.int w), some (.int h), none, none] [] M 0 0 from HH M0 hC (Kr.rf _)
  intro M hC hR
  refine aw_aload0 0 dX11_take_0 ?_
  refine aw_iload1 1 dX11_take_1 ?_
  refine cr_v1 2 dX11_take_2 (n_X11_pictureAt hC hno) ckV_RX11_106 cd_X11_pictureAt hC.xo.1 vc11 rfl rfl (Nat.le_of_ble_eq_true rfl) ⟨⟨by decide, by decide⟩, by decide, by decide⟩ rfl ?_
  refine aw_astoreN4 5 dX11_take_5 rfl ?_
  refine aw_aload0 7 dX11_take_7 ?_
  refine aw_iload2 8 dX11_take_8 ?_
  refine cr_v1 9 dX11_take_9 (n_X11_lensAt hC hno2) ckV_RX11_137 cd_X11_lensAt hC.xo.1 vc11 rfl rfl (Nat.le_of_ble_eq_true rfl) ⟨⟨by decide, by decide⟩, by decide, by decide⟩ rfl ?_
  refine aw_astoreN5 12 dX11_take_12 rfl ?_
  refine aw_aloadN4 14 dX11_take_14 ?_
  refine aw_ifnullN 16 24 dX11_take_16 (by decide) ?_
  refine aw_icm1 24 dX11_take_24 ?_
  refine aw_iret 25 dX11_take_25 rfl (Nat.zero_le _) (Nat.zero_le _) ?_
  exact ⟨rfl, hR, α, hC⟩

set_option maxHeartbeats 4000000 in
set_option maxRecDepth 100000 in
theorem n2_X11_take {M0 : Mem} {τ : TT} {α : AT} {v h : Int32} {l : Nat} (hC : CW τ α M0) (hno : ¬ ir v (nP τ)) (hl : l < nL τ) : CK mX11_take rmX11_take [.int v, .int (nI l), .int h] M0 (.int (-1)) (τ) := by
  refine am_of rfl rfl (ls := [some (.ref 2), some (.int v), some (.int (nI l)), some (.int h), none, none]) rfl ?_
  suffices HH : ∀ M, (CW τ α M) → (Kr M0 M) → AW mX11_take rmX11_take (fun r' M' => r' = (some (.int (-1))) ∧ (fun M2 => Kr M0 M2 ∧ ∃ α2, CW (τ) α2 M2) M') 0 [some (.ref 2), some (.int v), some (.int (nI l)), some (.int h), none, none] [] M 0 0 from HH M0 hC (Kr.rf _)
  intro M hC hR
  refine aw_aload0 0 dX11_take_0 ?_
  refine aw_iload1 1 dX11_take_1 ?_
  refine cr_v1 2 dX11_take_2 (n_X11_pictureAt hC hno) ckV_RX11_106 cd_X11_pictureAt hC.xo.1 vc11 rfl rfl (Nat.le_of_ble_eq_true rfl) ⟨⟨by decide, by decide⟩, by decide, by decide⟩ rfl ?_
  refine aw_astoreN4 5 dX11_take_5 rfl ?_
  refine aw_aload0 7 dX11_take_7 ?_
  refine aw_iload2 8 dX11_take_8 ?_
  refine cr_v1 9 dX11_take_9 (c_X11_lensAt hC hl) ckV_RX11_137 cd_X11_lensAt hC.xo.1 vc11 rfl rfl (Nat.le_of_ble_eq_true rfl) ⟨⟨by decide, by decide⟩, by decide, by decide⟩ rfl ?_
  refine aw_astore5 12 dX11_take_12 rfl ?_
  refine aw_aloadN4 14 dX11_take_14 ?_
  refine aw_ifnullN 16 24 dX11_take_16 (by decide) ?_
  refine aw_icm1 24 dX11_take_24 ?_
  refine aw_iret 25 dX11_take_25 rfl (Nat.zero_le _) (Nat.zero_le _) ?_
  exact ⟨rfl, hR, α, hC⟩

set_option maxHeartbeats 4000000 in
set_option maxRecDepth 100000 in
theorem n3_X11_take {M0 : Mem} {τ : TT} {α : AT} {p : Nat} {w h : Int32} (hC : CW τ α M0) (hp : p < nP τ) (hno2 : ¬ ir w (nL τ)) : CK mX11_take rmX11_take [.int (nI p), .int w, .int h] M0 (.int (-1)) (τ) := by
  refine am_of rfl rfl (ls := [some (.ref 2), some (.int (nI p)), some (.int w), some (.int h), none, none]) rfl ?_
  suffices HH : ∀ M, (CW τ α M) → (Kr M0 M) → AW mX11_take rmX11_take (fun r' M' => r' = (some (.int (-1))) ∧ (fun M2 => Kr M0 M2 ∧ ∃ α2, CW (τ) α2 M2) M') 0 [some (.ref 2), some (.int (nI p)), some (.int w), some (.int h), none, none] [] M 0 0 from HH M0 hC (Kr.rf _)
  intro M hC hR
  refine aw_aload0 0 dX11_take_0 ?_
  refine aw_iload1 1 dX11_take_1 ?_
  refine cr_v1 2 dX11_take_2 (c_X11_pictureAt hC hp) ckV_RX11_106 cd_X11_pictureAt hC.xo.1 vc11 rfl rfl (Nat.le_of_ble_eq_true rfl) ⟨⟨by decide, by decide⟩, by decide, by decide⟩ rfl ?_
  refine aw_astore4 5 dX11_take_5 rfl ?_
  refine aw_aload0 7 dX11_take_7 ?_
  refine aw_iload2 8 dX11_take_8 ?_
  refine cr_v1 9 dX11_take_9 (n_X11_lensAt hC hno2) ckV_RX11_137 cd_X11_lensAt hC.xo.1 vc11 rfl rfl (Nat.le_of_ble_eq_true rfl) ⟨⟨by decide, by decide⟩, by decide, by decide⟩ rfl ?_
  refine aw_astoreN5 12 dX11_take_12 rfl ?_
  refine aw_aload4 14 dX11_take_14 ?_
  refine aw_ifnull 16 dX11_take_16 ?_
  refine aw_aloadN5 19 dX11_take_19 ?_
  refine aw_ifnonnullN 21 dX11_take_21 ?_
  refine aw_icm1 24 dX11_take_24 ?_
  refine aw_iret 25 dX11_take_25 rfl (Nat.zero_le _) (Nat.zero_le _) ?_
  exact ⟨rfl, hR, α, hC⟩

set_option maxHeartbeats 4000000 in
set_option maxRecDepth 100000 in
theorem n4_X11_take {M0 : Mem} {τ : TT} {α : AT} {p l : Nat} {h : Int32} (hC : CW τ α M0) (hp : p < nP τ) (hl : l < nL τ) (hh : ¬ irg h 0 999) : CK mX11_take rmX11_take [.int (nI p), .int (nI l), .int h] M0 (.int (-2)) (τ) := by
  refine am_of rfl rfl (ls := [some (.ref 2), some (.int (nI p)), some (.int (nI l)), some (.int h), none, none]) rfl ?_
  suffices HH : ∀ M, (CW τ α M) → (Kr M0 M) → AW mX11_take rmX11_take (fun r' M' => r' = (some (.int (-2))) ∧ (fun M2 => Kr M0 M2 ∧ ∃ α2, CW (τ) α2 M2) M') 0 [some (.ref 2), some (.int (nI p)), some (.int (nI l)), some (.int h), none, none] [] M 0 0 from HH M0 hC (Kr.rf _)
  intro M hC hR
  refine aw_aload0 0 dX11_take_0 ?_
  refine aw_iload1 1 dX11_take_1 ?_
  refine cr_v1 2 dX11_take_2 (c_X11_pictureAt hC hp) ckV_RX11_106 cd_X11_pictureAt hC.xo.1 vc11 rfl rfl (Nat.le_of_ble_eq_true rfl) ⟨⟨by decide, by decide⟩, by decide, by decide⟩ rfl ?_
  refine aw_astore4 5 dX11_take_5 rfl ?_
  refine aw_aload0 7 dX11_take_7 ?_
  refine aw_iload2 8 dX11_take_8 ?_
  refine cr_v1 9 dX11_take_9 (c_X11_lensAt hC hl) ckV_RX11_137 cd_X11_lensAt hC.xo.1 vc11 rfl rfl (Nat.le_of_ble_eq_true rfl) ⟨⟨by decide, by decide⟩, by decide, by decide⟩ rfl ?_
  refine aw_astore5 12 dX11_take_12 rfl ?_
  refine aw_aload4 14 dX11_take_14 ?_
  refine aw_ifnull 16 dX11_take_16 ?_
  refine aw_aload5 19 dX11_take_19 ?_
  refine aw_ifnonnull 21 26 dX11_take_21 (by decide) ?_
  refine aw_iload3 26 dX11_take_26 ?_
  refine cr_s1 27 dX11_take_27 (cr_sd c_X11_isHour) ckS_RX11_144 cd_X11_isHour rfl (Nat.le_of_ble_eq_true rfl) ⟨⟨by decide, by decide⟩, by decide, by decide⟩ rfl ?_
  refine aw_ifne_b 30 36 dX11_take_30 (by decide) (fun h30 => ?_) (fun h30 => ?_)
  · exact absurd h30 hh
  · refine aw_bipush 33 (-2) dX11_take_33 (by decide) ?_
    refine aw_iret 35 dX11_take_35 rfl (Nat.zero_le _) (Nat.zero_le _) ?_
    exact ⟨rfl, hR, α, hC⟩

set_option maxHeartbeats 4000000 in
set_option maxRecDepth 100000 in
theorem n5_X11_take {M0 : Mem} {τ : TT} {α : AT} {p l : Nat} {h : Int32} (hC : CW τ α M0) (hp : p < nP τ) (hl : l < nL τ) (hh : irg h 0 999) (hno : ¬ τ 16 p < 0) : CK mX11_take rmX11_take [.int (nI p), .int (nI l), .int h] M0 (.int (-3)) (τ) := by
  refine am_of rfl rfl (ls := [some (.ref 2), some (.int (nI p)), some (.int (nI l)), some (.int h), none, none]) rfl ?_
  suffices HH : ∀ M, (CW τ α M) → (Kr M0 M) → AW mX11_take rmX11_take (fun r' M' => r' = (some (.int (-3))) ∧ (fun M2 => Kr M0 M2 ∧ ∃ α2, CW (τ) α2 M2) M') 0 [some (.ref 2), some (.int (nI p)), some (.int (nI l)), some (.int h), none, none] [] M 0 0 from HH M0 hC (Kr.rf _)
  intro M hC hR
  refine aw_aload0 0 dX11_take_0 ?_
  refine aw_iload1 1 dX11_take_1 ?_
  refine cr_v1 2 dX11_take_2 (c_X11_pictureAt hC hp) ckV_RX11_106 cd_X11_pictureAt hC.xo.1 vc11 rfl rfl (Nat.le_of_ble_eq_true rfl) ⟨⟨by decide, by decide⟩, by decide, by decide⟩ rfl ?_
  refine aw_astore4 5 dX11_take_5 rfl ?_
  refine aw_aload0 7 dX11_take_7 ?_
  refine aw_iload2 8 dX11_take_8 ?_
  refine cr_v1 9 dX11_take_9 (c_X11_lensAt hC hl) ckV_RX11_137 cd_X11_lensAt hC.xo.1 vc11 rfl rfl (Nat.le_of_ble_eq_true rfl) ⟨⟨by decide, by decide⟩, by decide, by decide⟩ rfl ?_
  refine aw_astore5 12 dX11_take_12 rfl ?_
  refine aw_aload4 14 dX11_take_14 ?_
  refine aw_ifnull 16 dX11_take_16 ?_
  refine aw_aload5 19 dX11_take_19 ?_
  refine aw_ifnonnull 21 26 dX11_take_21 (by decide) ?_
  refine aw_iload3 26 dX11_take_26 ?_
  refine cr_s1 27 dX11_take_27 (cr_sd c_X11_isHour) ckS_RX11_144 cd_X11_isHour rfl (Nat.le_of_ble_eq_true rfl) ⟨⟨by decide, by decide⟩, by decide, by decide⟩ rfl ?_
  refine aw_ifne_b 30 36 dX11_take_30 (by decide) (fun h30 => ?_) (fun h30 => ?_)
  · refine aw_aload4 36 dX11_take_36 ?_
    refine aw_get 38 dX11_take_38 ckF_RX11_147_3 (hC.pc p hp).2.2.2.1 ((hC.pc p hp).2.2.2.2.2.2.2.2.1.trans (if_neg hno)) ?_
    refine aw_ifnull 41 dX11_take_41 ?_
    refine aw_bipush 44 (-3) dX11_take_44 (by decide) ?_
    refine aw_iret 46 dX11_take_46 rfl (Nat.zero_le _) (Nat.zero_le _) ?_
    exact ⟨rfl, hR, α, hC⟩
  · exact absurd hh h30

set_option maxHeartbeats 4000000 in
set_option maxRecDepth 100000 in
theorem c_X11_take {M0 : Mem} {τ : TT} {α : AT} {p l : Nat} {h : Int32} (hC : CW τ α M0) (hp : p < nP τ) (hl : l < nL τ) (hh : irg h 0 999) (hno : τ 16 p < 0) : CK mX11_take rmX11_take [.int (nI p), .int (nI l), .int h] M0 (.int (slv τ p l h)) (wrt τ p l 0 (-9) h) := by
  refine am_of rfl rfl (ls := [some (.ref 2), some (.int (nI p)), some (.int (nI l)), some (.int h), none, none]) rfl ?_
  suffices HH : ∀ M, (CW τ α M) → (Kr M0 M) → AW mX11_take rmX11_take (fun r' M' => r' = (some (.int (slv τ p l h))) ∧ (fun M2 => Kr M0 M2 ∧ ∃ α2, CW (wrt τ p l 0 (-9) h) α2 M2) M') 0 [some (.ref 2), some (.int (nI p)), some (.int (nI l)), some (.int h), none, none] [] M 0 0 from HH M0 hC (Kr.rf _)
  intro M hC hR
  have h6 := hC.wl.1
  have h12 := hC.wp.1.1
  have hm := hC.m1
  obtain ⟨A, hA⟩ : ∃ A, M.1 = A := ⟨_, rfl⟩
  have hCb := hC
  have hk0 : Kp SC M M := Kp.rf _ _
  refine aw_aload0 0 dX11_take_0 ?_
  refine aw_iload1 1 dX11_take_1 ?_
  refine cr_v1 2 dX11_take_2 (c_X11_pictureAt hC hp) ckV_RX11_106 cd_X11_pictureAt hC.xo.1 vc11 rfl rfl (Nat.le_of_ble_eq_true rfl) ⟨⟨by decide, by decide⟩, by decide, by decide⟩ rfl ?_
  refine aw_astore4 5 dX11_take_5 rfl ?_
  refine aw_aload0 7 dX11_take_7 ?_
  refine aw_iload2 8 dX11_take_8 ?_
  refine cr_v1 9 dX11_take_9 (c_X11_lensAt hC hl) ckV_RX11_137 cd_X11_lensAt hC.xo.1 vc11 rfl rfl (Nat.le_of_ble_eq_true rfl) ⟨⟨by decide, by decide⟩, by decide, by decide⟩ rfl ?_
  refine aw_astore5 12 dX11_take_12 rfl ?_
  refine aw_aload4 14 dX11_take_14 ?_
  refine aw_ifnull 16 dX11_take_16 ?_
  refine aw_aload5 19 dX11_take_19 ?_
  refine aw_ifnonnull 21 26 dX11_take_21 (by decide) ?_
  refine aw_iload3 26 dX11_take_26 ?_
  refine cr_s1 27 dX11_take_27 (cr_sd c_X11_isHour) ckS_RX11_144 cd_X11_isHour rfl (Nat.le_of_ble_eq_true rfl) ⟨⟨by decide, by decide⟩, by decide, by decide⟩ rfl ?_
  refine aw_ifne_b 30 36 dX11_take_30 (by decide) (fun h30 => ?_) (fun h30 => ?_)
  · refine aw_aload4 36 dX11_take_36 ?_
    refine aw_get 38 dX11_take_38 ckF_RX11_147_3 (hC.pc p hp).2.2.2.1 ((hC.pc p hp).2.2.2.2.2.2.2.2.1.trans (if_pos hno)) ?_
    refine aw_ifnullN 41 47 dX11_take_41 (by decide) ?_
    refine aw_aload4 47 dX11_take_47 ?_
    refine na_obj 49 3 (A) dX11_take_49 ckN_RX11_151 rfl hA (by decide) (by decide) (fun M hd => ?_)
    have hk := hd.2.1
    replace hR := hR.trans ((hd.kp (S := fun _ => False) hA).kr hC.m1 (fun b q => q.elim))
    have hM1 := hd.1
    obtain ⟨hk1, hC⟩ := hCb.hin hk0 hC hd hA
    clear hd
    refine aw_dup 52 dX11_take_52 rfl ?_
    refine aw_aload5 53 dX11_take_53 ?_
    refine aw_iload3 55 dX11_take_55 ?_
    refine aw_aload0 56 dX11_take_56 ?_
    refine aw_aload4 57 dX11_take_57 ?_
    refine aw_aload5 59 dX11_take_59 ?_
    refine aw_iload3 61 dX11_take_61 ?_
    refine ap_v1 62 dX11_take_62 (c_X11_sealOf hC hp hl) ckV_RX11_153 cd_X11_sealOf hC.xo.1 vc11 rfl rfl (Nat.le_of_ble_eq_true rfl) ⟨⟨by decide, by decide⟩, by decide, by decide⟩ rfl (fun M hs => ?_)
    replace hR := hR.trans (hs.kp.kr hC.m1 (fun b q => by omega))
    replace hk1 := hk1.trans (hs.kpS (Or.inl rfl))
    replace hC := hC.wd8 hs
    replace hk := (congrFun hs.2.1 _).trans hk
    replace hM1 := hs.1.trans hM1
    refine ap_i 65 dX11_take_65 (c7_X7_init hk) ckI_RX11_157 cd_X7_init rfl rfl (Nat.le_of_ble_eq_true rfl) ⟨⟨by decide, by decide⟩, by decide, by decide⟩ (fun M hq => ?_)
    replace hR := hR.trans (hq.1.kp.kr hC.m1 (fun b q => by omega))
    obtain ⟨hk2, hC⟩ := hCb.hi hk1 hC hq.1 (by omega)
    replace hk := (congrFun hq.1.2.1 _).trans hk
    replace hM1 := hq.1.1.trans hM1
    refine fp_put 68 dX11_take_68 ckF_RX11_147_3 ckP3_4 (hC.pc p hp).2.2.2.1 rfl rfl (fun M hd => ?_)
    have h49 := (hC.pc p hp).1
    have hlt : α 0 p ≠ A := apart (hC.kdp hp).1 hk (by decide)
    replace hR := hR.trans (hd.toWd.kp.kr hC.m1 (fun b q => by omega))
    have hkq : M.2.1 (α 0 p) = (3, 5) := (congrFun hd.2.1 _).trans (hC.kdp hp).1
    have hpq := hd.2.2.1
    have hka := (congrFun hd.2.1 _).trans hk
    have z := hd.toWd.2.2 A hlt.symm
    replace hC := hC.tak hp hl hh (by omega) hk hq.2.1 hq.2.2.1 hq.2.2.2 hd
    refine aw_aload4 71 dX11_take_71 ?_
    refine aw_get 73 dX11_take_73 ckF_RX11_147_3 hkq hpq ?_
    refine aw_get 76 dX11_take_76 ckF_RX11_160_7 hka ((congrFun z 2).trans hq.2.2.2) ?_
    refine aw_iret 79 dX11_take_79 rfl (by decide) (by decide) ?_
    exact ⟨rfl, hR, _, hC⟩
  · exact absurd hh h30

def rmX11_hush : Room := { frames := 4, cells := 1, slots := 5, locals := 92 }
set_option maxHeartbeats 4000000 in
set_option maxRecDepth 100000 in
theorem n000_X11_hush {M0 : Mem} {τ : TT} {α : AT} {v : Int32} {u : Int32} {w : Int32} {h : Int32} (hC : CW τ α M0) (hno : ¬ ir v (nP τ)) (hno2 : ¬ ir u (nP τ)) (hno3 : ¬ ir w (nL τ)) : CK mX11_hush rmX11_hush [.int v, .int u, .int w, .int h] M0 (.int (-1)) (τ) := by
  refine am_of rfl rfl (ls := [some (.ref 2), some (.int v), some (.int u), some (.int w), some (.int h), none, none, none]) rfl ?_
  suffices HH : ∀ M, (CW τ α M) → (Kr M0 M) → AW mX11_hush rmX11_hush (fun r' M' => r' = (some (.int (-1))) ∧ (fun M2 => Kr M0 M2 ∧ ∃ α2, CW (τ) α2 M2) M') 0 [some (.ref 2), some (.int v), some (.int u), some (.int w), some (.int h), none, none, none] [] M 0 0 from HH M0 hC (Kr.rf _)
  intro M hC hR
  refine aw_aload0 0 dX11_hush_0 ?_
  refine aw_iload1 1 dX11_hush_1 ?_
  refine cr_v1 2 dX11_hush_2 (n_X11_pictureAt hC hno) ckV_RX11_106 cd_X11_pictureAt hC.xo.1 vc11 rfl rfl (Nat.le_of_ble_eq_true rfl) ⟨⟨by decide, by decide⟩, by decide, by decide⟩ rfl ?_
  refine aw_astoreN5 5 dX11_hush_5 rfl ?_
  refine aw_aload0 7 dX11_hush_7 ?_
  refine aw_iload2 8 dX11_hush_8 ?_
  refine cr_v1 9 dX11_hush_9 (n_X11_pictureAt hC hno2) ckV_RX11_106 cd_X11_pictureAt hC.xo.1 vc11 rfl rfl (Nat.le_of_ble_eq_true rfl) ⟨⟨by decide, by decide⟩, by decide, by decide⟩ rfl ?_
  refine aw_astoreN6 12 dX11_hush_12 rfl ?_
  refine aw_aload0 14 dX11_hush_14 ?_
  refine aw_iload3 15 dX11_hush_15 ?_
  refine cr_v1 16 dX11_hush_16 (n_X11_lensAt hC hno3) ckV_RX11_137 cd_X11_lensAt hC.xo.1 vc11 rfl rfl (Nat.le_of_ble_eq_true rfl) ⟨⟨by decide, by decide⟩, by decide, by decide⟩ rfl ?_
  refine aw_astoreN7 19 dX11_hush_19 rfl ?_
  refine aw_aloadN5 21 dX11_hush_21 ?_
  refine aw_ifnullN 23 36 dX11_hush_23 (by decide) ?_
  refine aw_icm1 36 dX11_hush_36 ?_
  refine aw_iret 37 dX11_hush_37 rfl (Nat.zero_le _) (Nat.zero_le _) ?_
  exact ⟨rfl, hR, α, hC⟩

set_option maxHeartbeats 4000000 in
set_option maxRecDepth 100000 in
theorem n001_X11_hush {M0 : Mem} {τ : TT} {α : AT} {v : Int32} {u : Int32} {l : Nat} {h : Int32} (hC : CW τ α M0) (hno : ¬ ir v (nP τ)) (hno2 : ¬ ir u (nP τ)) (hl : l < nL τ) : CK mX11_hush rmX11_hush [.int v, .int u, .int (nI l), .int h] M0 (.int (-1)) (τ) := by
  refine am_of rfl rfl (ls := [some (.ref 2), some (.int v), some (.int u), some (.int (nI l)), some (.int h), none, none, none]) rfl ?_
  suffices HH : ∀ M, (CW τ α M) → (Kr M0 M) → AW mX11_hush rmX11_hush (fun r' M' => r' = (some (.int (-1))) ∧ (fun M2 => Kr M0 M2 ∧ ∃ α2, CW (τ) α2 M2) M') 0 [some (.ref 2), some (.int v), some (.int u), some (.int (nI l)), some (.int h), none, none, none] [] M 0 0 from HH M0 hC (Kr.rf _)
  intro M hC hR
  refine aw_aload0 0 dX11_hush_0 ?_
  refine aw_iload1 1 dX11_hush_1 ?_
  refine cr_v1 2 dX11_hush_2 (n_X11_pictureAt hC hno) ckV_RX11_106 cd_X11_pictureAt hC.xo.1 vc11 rfl rfl (Nat.le_of_ble_eq_true rfl) ⟨⟨by decide, by decide⟩, by decide, by decide⟩ rfl ?_
  refine aw_astoreN5 5 dX11_hush_5 rfl ?_
  refine aw_aload0 7 dX11_hush_7 ?_
  refine aw_iload2 8 dX11_hush_8 ?_
  refine cr_v1 9 dX11_hush_9 (n_X11_pictureAt hC hno2) ckV_RX11_106 cd_X11_pictureAt hC.xo.1 vc11 rfl rfl (Nat.le_of_ble_eq_true rfl) ⟨⟨by decide, by decide⟩, by decide, by decide⟩ rfl ?_
  refine aw_astoreN6 12 dX11_hush_12 rfl ?_
  refine aw_aload0 14 dX11_hush_14 ?_
  refine aw_iload3 15 dX11_hush_15 ?_
  refine cr_v1 16 dX11_hush_16 (c_X11_lensAt hC hl) ckV_RX11_137 cd_X11_lensAt hC.xo.1 vc11 rfl rfl (Nat.le_of_ble_eq_true rfl) ⟨⟨by decide, by decide⟩, by decide, by decide⟩ rfl ?_
  refine aw_astore7 19 dX11_hush_19 rfl ?_
  refine aw_aloadN5 21 dX11_hush_21 ?_
  refine aw_ifnullN 23 36 dX11_hush_23 (by decide) ?_
  refine aw_icm1 36 dX11_hush_36 ?_
  refine aw_iret 37 dX11_hush_37 rfl (Nat.zero_le _) (Nat.zero_le _) ?_
  exact ⟨rfl, hR, α, hC⟩

set_option maxHeartbeats 4000000 in
set_option maxRecDepth 100000 in
theorem n010_X11_hush {M0 : Mem} {τ : TT} {α : AT} {v : Int32} {f : Nat} {w : Int32} {h : Int32} (hC : CW τ α M0) (hno : ¬ ir v (nP τ)) (hf : f < nP τ) (hno3 : ¬ ir w (nL τ)) : CK mX11_hush rmX11_hush [.int v, .int (nI f), .int w, .int h] M0 (.int (-1)) (τ) := by
  refine am_of rfl rfl (ls := [some (.ref 2), some (.int v), some (.int (nI f)), some (.int w), some (.int h), none, none, none]) rfl ?_
  suffices HH : ∀ M, (CW τ α M) → (Kr M0 M) → AW mX11_hush rmX11_hush (fun r' M' => r' = (some (.int (-1))) ∧ (fun M2 => Kr M0 M2 ∧ ∃ α2, CW (τ) α2 M2) M') 0 [some (.ref 2), some (.int v), some (.int (nI f)), some (.int w), some (.int h), none, none, none] [] M 0 0 from HH M0 hC (Kr.rf _)
  intro M hC hR
  refine aw_aload0 0 dX11_hush_0 ?_
  refine aw_iload1 1 dX11_hush_1 ?_
  refine cr_v1 2 dX11_hush_2 (n_X11_pictureAt hC hno) ckV_RX11_106 cd_X11_pictureAt hC.xo.1 vc11 rfl rfl (Nat.le_of_ble_eq_true rfl) ⟨⟨by decide, by decide⟩, by decide, by decide⟩ rfl ?_
  refine aw_astoreN5 5 dX11_hush_5 rfl ?_
  refine aw_aload0 7 dX11_hush_7 ?_
  refine aw_iload2 8 dX11_hush_8 ?_
  refine cr_v1 9 dX11_hush_9 (c_X11_pictureAt hC hf) ckV_RX11_106 cd_X11_pictureAt hC.xo.1 vc11 rfl rfl (Nat.le_of_ble_eq_true rfl) ⟨⟨by decide, by decide⟩, by decide, by decide⟩ rfl ?_
  refine aw_astore6 12 dX11_hush_12 rfl ?_
  refine aw_aload0 14 dX11_hush_14 ?_
  refine aw_iload3 15 dX11_hush_15 ?_
  refine cr_v1 16 dX11_hush_16 (n_X11_lensAt hC hno3) ckV_RX11_137 cd_X11_lensAt hC.xo.1 vc11 rfl rfl (Nat.le_of_ble_eq_true rfl) ⟨⟨by decide, by decide⟩, by decide, by decide⟩ rfl ?_
  refine aw_astoreN7 19 dX11_hush_19 rfl ?_
  refine aw_aloadN5 21 dX11_hush_21 ?_
  refine aw_ifnullN 23 36 dX11_hush_23 (by decide) ?_
  refine aw_icm1 36 dX11_hush_36 ?_
  refine aw_iret 37 dX11_hush_37 rfl (Nat.zero_le _) (Nat.zero_le _) ?_
  exact ⟨rfl, hR, α, hC⟩

set_option maxHeartbeats 4000000 in
set_option maxRecDepth 100000 in
theorem n011_X11_hush {M0 : Mem} {τ : TT} {α : AT} {v : Int32} {f : Nat} {l : Nat} {h : Int32} (hC : CW τ α M0) (hno : ¬ ir v (nP τ)) (hf : f < nP τ) (hl : l < nL τ) : CK mX11_hush rmX11_hush [.int v, .int (nI f), .int (nI l), .int h] M0 (.int (-1)) (τ) := by
  refine am_of rfl rfl (ls := [some (.ref 2), some (.int v), some (.int (nI f)), some (.int (nI l)), some (.int h), none, none, none]) rfl ?_
  suffices HH : ∀ M, (CW τ α M) → (Kr M0 M) → AW mX11_hush rmX11_hush (fun r' M' => r' = (some (.int (-1))) ∧ (fun M2 => Kr M0 M2 ∧ ∃ α2, CW (τ) α2 M2) M') 0 [some (.ref 2), some (.int v), some (.int (nI f)), some (.int (nI l)), some (.int h), none, none, none] [] M 0 0 from HH M0 hC (Kr.rf _)
  intro M hC hR
  refine aw_aload0 0 dX11_hush_0 ?_
  refine aw_iload1 1 dX11_hush_1 ?_
  refine cr_v1 2 dX11_hush_2 (n_X11_pictureAt hC hno) ckV_RX11_106 cd_X11_pictureAt hC.xo.1 vc11 rfl rfl (Nat.le_of_ble_eq_true rfl) ⟨⟨by decide, by decide⟩, by decide, by decide⟩ rfl ?_
  refine aw_astoreN5 5 dX11_hush_5 rfl ?_
  refine aw_aload0 7 dX11_hush_7 ?_
  refine aw_iload2 8 dX11_hush_8 ?_
  refine cr_v1 9 dX11_hush_9 (c_X11_pictureAt hC hf) ckV_RX11_106 cd_X11_pictureAt hC.xo.1 vc11 rfl rfl (Nat.le_of_ble_eq_true rfl) ⟨⟨by decide, by decide⟩, by decide, by decide⟩ rfl ?_
  refine aw_astore6 12 dX11_hush_12 rfl ?_
  refine aw_aload0 14 dX11_hush_14 ?_
  refine aw_iload3 15 dX11_hush_15 ?_
  refine cr_v1 16 dX11_hush_16 (c_X11_lensAt hC hl) ckV_RX11_137 cd_X11_lensAt hC.xo.1 vc11 rfl rfl (Nat.le_of_ble_eq_true rfl) ⟨⟨by decide, by decide⟩, by decide, by decide⟩ rfl ?_
  refine aw_astore7 19 dX11_hush_19 rfl ?_
  refine aw_aloadN5 21 dX11_hush_21 ?_
  refine aw_ifnullN 23 36 dX11_hush_23 (by decide) ?_
  refine aw_icm1 36 dX11_hush_36 ?_
  refine aw_iret 37 dX11_hush_37 rfl (Nat.zero_le _) (Nat.zero_le _) ?_
  exact ⟨rfl, hR, α, hC⟩

set_option maxHeartbeats 4000000 in
set_option maxRecDepth 100000 in
theorem n100_X11_hush {M0 : Mem} {τ : TT} {α : AT} {p : Nat} {u : Int32} {w : Int32} {h : Int32} (hC : CW τ α M0) (hp : p < nP τ) (hno2 : ¬ ir u (nP τ)) (hno3 : ¬ ir w (nL τ)) : CK mX11_hush rmX11_hush [.int (nI p), .int u, .int w, .int h] M0 (.int (-1)) (τ) := by
  refine am_of rfl rfl (ls := [some (.ref 2), some (.int (nI p)), some (.int u), some (.int w), some (.int h), none, none, none]) rfl ?_
  suffices HH : ∀ M, (CW τ α M) → (Kr M0 M) → AW mX11_hush rmX11_hush (fun r' M' => r' = (some (.int (-1))) ∧ (fun M2 => Kr M0 M2 ∧ ∃ α2, CW (τ) α2 M2) M') 0 [some (.ref 2), some (.int (nI p)), some (.int u), some (.int w), some (.int h), none, none, none] [] M 0 0 from HH M0 hC (Kr.rf _)
  intro M hC hR
  refine aw_aload0 0 dX11_hush_0 ?_
  refine aw_iload1 1 dX11_hush_1 ?_
  refine cr_v1 2 dX11_hush_2 (c_X11_pictureAt hC hp) ckV_RX11_106 cd_X11_pictureAt hC.xo.1 vc11 rfl rfl (Nat.le_of_ble_eq_true rfl) ⟨⟨by decide, by decide⟩, by decide, by decide⟩ rfl ?_
  refine aw_astore5 5 dX11_hush_5 rfl ?_
  refine aw_aload0 7 dX11_hush_7 ?_
  refine aw_iload2 8 dX11_hush_8 ?_
  refine cr_v1 9 dX11_hush_9 (n_X11_pictureAt hC hno2) ckV_RX11_106 cd_X11_pictureAt hC.xo.1 vc11 rfl rfl (Nat.le_of_ble_eq_true rfl) ⟨⟨by decide, by decide⟩, by decide, by decide⟩ rfl ?_
  refine aw_astoreN6 12 dX11_hush_12 rfl ?_
  refine aw_aload0 14 dX11_hush_14 ?_
  refine aw_iload3 15 dX11_hush_15 ?_
  refine cr_v1 16 dX11_hush_16 (n_X11_lensAt hC hno3) ckV_RX11_137 cd_X11_lensAt hC.xo.1 vc11 rfl rfl (Nat.le_of_ble_eq_true rfl) ⟨⟨by decide, by decide⟩, by decide, by decide⟩ rfl ?_
  refine aw_astoreN7 19 dX11_hush_19 rfl ?_
  refine aw_aload5 21 dX11_hush_21 ?_
  refine aw_ifnull 23 dX11_hush_23 ?_
  refine aw_aloadN6 26 dX11_hush_26 ?_
  refine aw_ifnullN 28 36 dX11_hush_28 (by decide) ?_
  refine aw_icm1 36 dX11_hush_36 ?_
  refine aw_iret 37 dX11_hush_37 rfl (Nat.zero_le _) (Nat.zero_le _) ?_
  exact ⟨rfl, hR, α, hC⟩

set_option maxHeartbeats 4000000 in
set_option maxRecDepth 100000 in
theorem n101_X11_hush {M0 : Mem} {τ : TT} {α : AT} {p : Nat} {u : Int32} {l : Nat} {h : Int32} (hC : CW τ α M0) (hp : p < nP τ) (hno2 : ¬ ir u (nP τ)) (hl : l < nL τ) : CK mX11_hush rmX11_hush [.int (nI p), .int u, .int (nI l), .int h] M0 (.int (-1)) (τ) := by
  refine am_of rfl rfl (ls := [some (.ref 2), some (.int (nI p)), some (.int u), some (.int (nI l)), some (.int h), none, none, none]) rfl ?_
  suffices HH : ∀ M, (CW τ α M) → (Kr M0 M) → AW mX11_hush rmX11_hush (fun r' M' => r' = (some (.int (-1))) ∧ (fun M2 => Kr M0 M2 ∧ ∃ α2, CW (τ) α2 M2) M') 0 [some (.ref 2), some (.int (nI p)), some (.int u), some (.int (nI l)), some (.int h), none, none, none] [] M 0 0 from HH M0 hC (Kr.rf _)
  intro M hC hR
  refine aw_aload0 0 dX11_hush_0 ?_
  refine aw_iload1 1 dX11_hush_1 ?_
  refine cr_v1 2 dX11_hush_2 (c_X11_pictureAt hC hp) ckV_RX11_106 cd_X11_pictureAt hC.xo.1 vc11 rfl rfl (Nat.le_of_ble_eq_true rfl) ⟨⟨by decide, by decide⟩, by decide, by decide⟩ rfl ?_
  refine aw_astore5 5 dX11_hush_5 rfl ?_
  refine aw_aload0 7 dX11_hush_7 ?_
  refine aw_iload2 8 dX11_hush_8 ?_
  refine cr_v1 9 dX11_hush_9 (n_X11_pictureAt hC hno2) ckV_RX11_106 cd_X11_pictureAt hC.xo.1 vc11 rfl rfl (Nat.le_of_ble_eq_true rfl) ⟨⟨by decide, by decide⟩, by decide, by decide⟩ rfl ?_
  refine aw_astoreN6 12 dX11_hush_12 rfl ?_
  refine aw_aload0 14 dX11_hush_14 ?_
  refine aw_iload3 15 dX11_hush_15 ?_
  refine cr_v1 16 dX11_hush_16 (c_X11_lensAt hC hl) ckV_RX11_137 cd_X11_lensAt hC.xo.1 vc11 rfl rfl (Nat.le_of_ble_eq_true rfl) ⟨⟨by decide, by decide⟩, by decide, by decide⟩ rfl ?_
  refine aw_astore7 19 dX11_hush_19 rfl ?_
  refine aw_aload5 21 dX11_hush_21 ?_
  refine aw_ifnull 23 dX11_hush_23 ?_
  refine aw_aloadN6 26 dX11_hush_26 ?_
  refine aw_ifnullN 28 36 dX11_hush_28 (by decide) ?_
  refine aw_icm1 36 dX11_hush_36 ?_
  refine aw_iret 37 dX11_hush_37 rfl (Nat.zero_le _) (Nat.zero_le _) ?_
  exact ⟨rfl, hR, α, hC⟩

set_option maxHeartbeats 4000000 in
set_option maxRecDepth 100000 in
theorem n110_X11_hush {M0 : Mem} {τ : TT} {α : AT} {p : Nat} {f : Nat} {w : Int32} {h : Int32} (hC : CW τ α M0) (hp : p < nP τ) (hf : f < nP τ) (hno3 : ¬ ir w (nL τ)) : CK mX11_hush rmX11_hush [.int (nI p), .int (nI f), .int w, .int h] M0 (.int (-1)) (τ) := by
  refine am_of rfl rfl (ls := [some (.ref 2), some (.int (nI p)), some (.int (nI f)), some (.int w), some (.int h), none, none, none]) rfl ?_
  suffices HH : ∀ M, (CW τ α M) → (Kr M0 M) → AW mX11_hush rmX11_hush (fun r' M' => r' = (some (.int (-1))) ∧ (fun M2 => Kr M0 M2 ∧ ∃ α2, CW (τ) α2 M2) M') 0 [some (.ref 2), some (.int (nI p)), some (.int (nI f)), some (.int w), some (.int h), none, none, none] [] M 0 0 from HH M0 hC (Kr.rf _)
  intro M hC hR
  refine aw_aload0 0 dX11_hush_0 ?_
  refine aw_iload1 1 dX11_hush_1 ?_
  refine cr_v1 2 dX11_hush_2 (c_X11_pictureAt hC hp) ckV_RX11_106 cd_X11_pictureAt hC.xo.1 vc11 rfl rfl (Nat.le_of_ble_eq_true rfl) ⟨⟨by decide, by decide⟩, by decide, by decide⟩ rfl ?_
  refine aw_astore5 5 dX11_hush_5 rfl ?_
  refine aw_aload0 7 dX11_hush_7 ?_
  refine aw_iload2 8 dX11_hush_8 ?_
  refine cr_v1 9 dX11_hush_9 (c_X11_pictureAt hC hf) ckV_RX11_106 cd_X11_pictureAt hC.xo.1 vc11 rfl rfl (Nat.le_of_ble_eq_true rfl) ⟨⟨by decide, by decide⟩, by decide, by decide⟩ rfl ?_
  refine aw_astore6 12 dX11_hush_12 rfl ?_
  refine aw_aload0 14 dX11_hush_14 ?_
  refine aw_iload3 15 dX11_hush_15 ?_
  refine cr_v1 16 dX11_hush_16 (n_X11_lensAt hC hno3) ckV_RX11_137 cd_X11_lensAt hC.xo.1 vc11 rfl rfl (Nat.le_of_ble_eq_true rfl) ⟨⟨by decide, by decide⟩, by decide, by decide⟩ rfl ?_
  refine aw_astoreN7 19 dX11_hush_19 rfl ?_
  refine aw_aload5 21 dX11_hush_21 ?_
  refine aw_ifnull 23 dX11_hush_23 ?_
  refine aw_aload6 26 dX11_hush_26 ?_
  refine aw_ifnull 28 dX11_hush_28 ?_
  refine aw_aloadN7 31 dX11_hush_31 ?_
  refine aw_ifnonnullN 33 dX11_hush_33 ?_
  refine aw_icm1 36 dX11_hush_36 ?_
  refine aw_iret 37 dX11_hush_37 rfl (Nat.zero_le _) (Nat.zero_le _) ?_
  exact ⟨rfl, hR, α, hC⟩

set_option maxHeartbeats 4000000 in
set_option maxRecDepth 100000 in
theorem n2_X11_hush {M0 : Mem} {τ : TT} {α : AT} {p f l : Nat} {h : Int32} (hC : CW τ α M0) (hp : p < nP τ) (hf : f < nP τ) (hl : l < nL τ) (hh : ¬ irg h 0 999) : CK mX11_hush rmX11_hush [.int (nI p), .int (nI f), .int (nI l), .int h] M0 (.int (-2)) (τ) := by
  refine am_of rfl rfl (ls := [some (.ref 2), some (.int (nI p)), some (.int (nI f)), some (.int (nI l)), some (.int h), none, none, none]) rfl ?_
  suffices HH : ∀ M, (CW τ α M) → (Kr M0 M) → AW mX11_hush rmX11_hush (fun r' M' => r' = (some (.int (-2))) ∧ (fun M2 => Kr M0 M2 ∧ ∃ α2, CW (τ) α2 M2) M') 0 [some (.ref 2), some (.int (nI p)), some (.int (nI f)), some (.int (nI l)), some (.int h), none, none, none] [] M 0 0 from HH M0 hC (Kr.rf _)
  intro M hC hR
  refine aw_aload0 0 dX11_hush_0 ?_
  refine aw_iload1 1 dX11_hush_1 ?_
  refine cr_v1 2 dX11_hush_2 (c_X11_pictureAt hC hp) ckV_RX11_106 cd_X11_pictureAt hC.xo.1 vc11 rfl rfl (Nat.le_of_ble_eq_true rfl) ⟨⟨by decide, by decide⟩, by decide, by decide⟩ rfl ?_
  refine aw_astore5 5 dX11_hush_5 rfl ?_
  refine aw_aload0 7 dX11_hush_7 ?_
  refine aw_iload2 8 dX11_hush_8 ?_
  refine cr_v1 9 dX11_hush_9 (c_X11_pictureAt hC hf) ckV_RX11_106 cd_X11_pictureAt hC.xo.1 vc11 rfl rfl (Nat.le_of_ble_eq_true rfl) ⟨⟨by decide, by decide⟩, by decide, by decide⟩ rfl ?_
  refine aw_astore6 12 dX11_hush_12 rfl ?_
  refine aw_aload0 14 dX11_hush_14 ?_
  refine aw_iload3 15 dX11_hush_15 ?_
  refine cr_v1 16 dX11_hush_16 (c_X11_lensAt hC hl) ckV_RX11_137 cd_X11_lensAt hC.xo.1 vc11 rfl rfl (Nat.le_of_ble_eq_true rfl) ⟨⟨by decide, by decide⟩, by decide, by decide⟩ rfl ?_
  refine aw_astore7 19 dX11_hush_19 rfl ?_
  refine aw_aload5 21 dX11_hush_21 ?_
  refine aw_ifnull 23 dX11_hush_23 ?_
  refine aw_aload6 26 dX11_hush_26 ?_
  refine aw_ifnull 28 dX11_hush_28 ?_
  refine aw_aload7 31 dX11_hush_31 ?_
  refine aw_ifnonnull 33 38 dX11_hush_33 (by decide) ?_
  refine aw_iload4 38 dX11_hush_38 ?_
  refine cr_s1 40 dX11_hush_40 (cr_sd c_X11_isHour) ckS_RX11_144 cd_X11_isHour rfl (Nat.le_of_ble_eq_true rfl) ⟨⟨by decide, by decide⟩, by decide, by decide⟩ rfl ?_
  refine aw_ifne_b 43 49 dX11_hush_43 (by decide) (fun h43 => ?_) (fun h43 => ?_)
  · exact absurd h43 hh
  · refine aw_bipush 46 (-2) dX11_hush_46 (by decide) ?_
    refine aw_iret 48 dX11_hush_48 rfl (Nat.zero_le _) (Nat.zero_le _) ?_
    exact ⟨rfl, hR, α, hC⟩

set_option maxHeartbeats 4000000 in
set_option maxRecDepth 100000 in
theorem n3_X11_hush {M0 : Mem} {τ : TT} {α : AT} {p f l : Nat} {h : Int32} (hC : CW τ α M0) (hp : p < nP τ) (hf : f < nP τ) (hl : l < nL τ) (hh : irg h 0 999) (hno : ¬ τ 16 p < 0) : CK mX11_hush rmX11_hush [.int (nI p), .int (nI f), .int (nI l), .int h] M0 (.int (-3)) (τ) := by
  refine am_of rfl rfl (ls := [some (.ref 2), some (.int (nI p)), some (.int (nI f)), some (.int (nI l)), some (.int h), none, none, none]) rfl ?_
  suffices HH : ∀ M, (CW τ α M) → (Kr M0 M) → AW mX11_hush rmX11_hush (fun r' M' => r' = (some (.int (-3))) ∧ (fun M2 => Kr M0 M2 ∧ ∃ α2, CW (τ) α2 M2) M') 0 [some (.ref 2), some (.int (nI p)), some (.int (nI f)), some (.int (nI l)), some (.int h), none, none, none] [] M 0 0 from HH M0 hC (Kr.rf _)
  intro M hC hR
  have h12 := hC.wp.1.1
  refine aw_aload0 0 dX11_hush_0 ?_
  refine aw_iload1 1 dX11_hush_1 ?_
  refine cr_v1 2 dX11_hush_2 (c_X11_pictureAt hC hp) ckV_RX11_106 cd_X11_pictureAt hC.xo.1 vc11 rfl rfl (Nat.le_of_ble_eq_true rfl) ⟨⟨by decide, by decide⟩, by decide, by decide⟩ rfl ?_
  refine aw_astore5 5 dX11_hush_5 rfl ?_
  refine aw_aload0 7 dX11_hush_7 ?_
  refine aw_iload2 8 dX11_hush_8 ?_
  refine cr_v1 9 dX11_hush_9 (c_X11_pictureAt hC hf) ckV_RX11_106 cd_X11_pictureAt hC.xo.1 vc11 rfl rfl (Nat.le_of_ble_eq_true rfl) ⟨⟨by decide, by decide⟩, by decide, by decide⟩ rfl ?_
  refine aw_astore6 12 dX11_hush_12 rfl ?_
  refine aw_aload0 14 dX11_hush_14 ?_
  refine aw_iload3 15 dX11_hush_15 ?_
  refine cr_v1 16 dX11_hush_16 (c_X11_lensAt hC hl) ckV_RX11_137 cd_X11_lensAt hC.xo.1 vc11 rfl rfl (Nat.le_of_ble_eq_true rfl) ⟨⟨by decide, by decide⟩, by decide, by decide⟩ rfl ?_
  refine aw_astore7 19 dX11_hush_19 rfl ?_
  refine aw_aload5 21 dX11_hush_21 ?_
  refine aw_ifnull 23 dX11_hush_23 ?_
  refine aw_aload6 26 dX11_hush_26 ?_
  refine aw_ifnull 28 dX11_hush_28 ?_
  refine aw_aload7 31 dX11_hush_31 ?_
  refine aw_ifnonnull 33 38 dX11_hush_33 (by decide) ?_
  refine aw_iload4 38 dX11_hush_38 ?_
  refine cr_s1 40 dX11_hush_40 (cr_sd c_X11_isHour) ckS_RX11_144 cd_X11_isHour rfl (Nat.le_of_ble_eq_true rfl) ⟨⟨by decide, by decide⟩, by decide, by decide⟩ rfl ?_
  refine aw_ifne_b 43 49 dX11_hush_43 (by decide) (fun h43 => ?_) (fun h43 => ?_)
  · refine aw_aload5 49 dX11_hush_49 ?_
    refine aw_get 51 dX11_hush_51 ckF_RX11_147_3 (hC.pc p hp).2.2.2.1 ((hC.pc p hp).2.2.2.2.2.2.2.2.1.trans (if_neg hno)) ?_
    refine aw_ifnonnull 54 62 dX11_hush_54 (by decide) ?_
    refine aw_bipush 62 (-3) dX11_hush_62 (by decide) ?_
    refine aw_iret 64 dX11_hush_64 rfl (Nat.zero_le _) (Nat.zero_le _) ?_
    exact ⟨rfl, hR, α, hC⟩
  · exact absurd hh h43

set_option maxHeartbeats 4000000 in
set_option maxRecDepth 100000 in
theorem n4_X11_hush {M0 : Mem} {τ : TT} {α : AT} {p f l : Nat} {h : Int32} (hC : CW τ α M0) (hp : p < nP τ) (hf : f < nP τ) (hl : l < nL τ) (hh : irg h 0 999) (hno : τ 16 p < 0) (hfp : p ≤ f) : CK mX11_hush rmX11_hush [.int (nI p), .int (nI f), .int (nI l), .int h] M0 (.int (-3)) (τ) := by
  refine am_of rfl rfl (ls := [some (.ref 2), some (.int (nI p)), some (.int (nI f)), some (.int (nI l)), some (.int h), none, none, none]) rfl ?_
  suffices HH : ∀ M, (CW τ α M) → (Kr M0 M) → AW mX11_hush rmX11_hush (fun r' M' => r' = (some (.int (-3))) ∧ (fun M2 => Kr M0 M2 ∧ ∃ α2, CW (τ) α2 M2) M') 0 [some (.ref 2), some (.int (nI p)), some (.int (nI f)), some (.int (nI l)), some (.int h), none, none, none] [] M 0 0 from HH M0 hC (Kr.rf _)
  intro M hC hR
  have h12 := hC.wp.1.1
  refine aw_aload0 0 dX11_hush_0 ?_
  refine aw_iload1 1 dX11_hush_1 ?_
  refine cr_v1 2 dX11_hush_2 (c_X11_pictureAt hC hp) ckV_RX11_106 cd_X11_pictureAt hC.xo.1 vc11 rfl rfl (Nat.le_of_ble_eq_true rfl) ⟨⟨by decide, by decide⟩, by decide, by decide⟩ rfl ?_
  refine aw_astore5 5 dX11_hush_5 rfl ?_
  refine aw_aload0 7 dX11_hush_7 ?_
  refine aw_iload2 8 dX11_hush_8 ?_
  refine cr_v1 9 dX11_hush_9 (c_X11_pictureAt hC hf) ckV_RX11_106 cd_X11_pictureAt hC.xo.1 vc11 rfl rfl (Nat.le_of_ble_eq_true rfl) ⟨⟨by decide, by decide⟩, by decide, by decide⟩ rfl ?_
  refine aw_astore6 12 dX11_hush_12 rfl ?_
  refine aw_aload0 14 dX11_hush_14 ?_
  refine aw_iload3 15 dX11_hush_15 ?_
  refine cr_v1 16 dX11_hush_16 (c_X11_lensAt hC hl) ckV_RX11_137 cd_X11_lensAt hC.xo.1 vc11 rfl rfl (Nat.le_of_ble_eq_true rfl) ⟨⟨by decide, by decide⟩, by decide, by decide⟩ rfl ?_
  refine aw_astore7 19 dX11_hush_19 rfl ?_
  refine aw_aload5 21 dX11_hush_21 ?_
  refine aw_ifnull 23 dX11_hush_23 ?_
  refine aw_aload6 26 dX11_hush_26 ?_
  refine aw_ifnull 28 dX11_hush_28 ?_
  refine aw_aload7 31 dX11_hush_31 ?_
  refine aw_ifnonnull 33 38 dX11_hush_33 (by decide) ?_
  refine aw_iload4 38 dX11_hush_38 ?_
  refine cr_s1 40 dX11_hush_40 (cr_sd c_X11_isHour) ckS_RX11_144 cd_X11_isHour rfl (Nat.le_of_ble_eq_true rfl) ⟨⟨by decide, by decide⟩, by decide, by decide⟩ rfl ?_
  refine aw_ifne_b 43 49 dX11_hush_43 (by decide) (fun h43 => ?_) (fun h43 => ?_)
  · refine aw_aload5 49 dX11_hush_49 ?_
    refine aw_get 51 dX11_hush_51 ckF_RX11_147_3 (hC.pc p hp).2.2.2.1 ((hC.pc p hp).2.2.2.2.2.2.2.2.1.trans (if_pos hno)) ?_
    refine aw_ifnonnullN 54 dX11_hush_54 ?_
    refine aw_iload2 57 dX11_hush_57 ?_
    refine aw_iload1 58 dX11_hush_58 ?_
    refine aw_icmp_ltN 59 65 (f) (p) dX11_hush_59 (by decide) rfl rfl (by omega) (by omega) (fun h59 => ?_) (fun h59 => ?_)
    · exact absurd h59 (by omega)
    · refine aw_bipush 62 (-3) dX11_hush_62 (by decide) ?_
      refine aw_iret 64 dX11_hush_64 rfl (Nat.zero_le _) (Nat.zero_le _) ?_
      exact ⟨rfl, hR, α, hC⟩
  · exact absurd hh h43

set_option maxHeartbeats 4000000 in
set_option maxRecDepth 100000 in
theorem c_X11_hush {M0 : Mem} {τ : TT} {α : AT} {p f l : Nat} {h : Int32} (hC : CW τ α M0) (hp : p < nP τ) (hf : f < nP τ) (hl : l < nL τ) (hh : irg h 0 999) (hno : τ 16 p < 0) (hfp : f < p) : CK mX11_hush rmX11_hush [.int (nI p), .int (nI f), .int (nI l), .int h] M0 (.int (slv τ p l h)) (wrt τ p l 2 (nI f) h) := by
  refine am_of rfl rfl (ls := [some (.ref 2), some (.int (nI p)), some (.int (nI f)), some (.int (nI l)), some (.int h), none, none, none]) rfl ?_
  suffices HH : ∀ M, (CW τ α M) → (Kr M0 M) → AW mX11_hush rmX11_hush (fun r' M' => r' = (some (.int (slv τ p l h))) ∧ (fun M2 => Kr M0 M2 ∧ ∃ α2, CW (wrt τ p l 2 (nI f) h) α2 M2) M') 0 [some (.ref 2), some (.int (nI p)), some (.int (nI f)), some (.int (nI l)), some (.int h), none, none, none] [] M 0 0 from HH M0 hC (Kr.rf _)
  intro M hC hR
  have h6 := hC.wl.1
  have h12 := hC.wp.1.1
  have hm := hC.m1
  obtain ⟨A, hA⟩ : ∃ A, M.1 = A := ⟨_, rfl⟩
  have hCb := hC
  have hk0 : Kp SC M M := Kp.rf _ _
  refine aw_aload0 0 dX11_hush_0 ?_
  refine aw_iload1 1 dX11_hush_1 ?_
  refine cr_v1 2 dX11_hush_2 (c_X11_pictureAt hC hp) ckV_RX11_106 cd_X11_pictureAt hC.xo.1 vc11 rfl rfl (Nat.le_of_ble_eq_true rfl) ⟨⟨by decide, by decide⟩, by decide, by decide⟩ rfl ?_
  refine aw_astore5 5 dX11_hush_5 rfl ?_
  refine aw_aload0 7 dX11_hush_7 ?_
  refine aw_iload2 8 dX11_hush_8 ?_
  refine cr_v1 9 dX11_hush_9 (c_X11_pictureAt hC hf) ckV_RX11_106 cd_X11_pictureAt hC.xo.1 vc11 rfl rfl (Nat.le_of_ble_eq_true rfl) ⟨⟨by decide, by decide⟩, by decide, by decide⟩ rfl ?_
  refine aw_astore6 12 dX11_hush_12 rfl ?_
  refine aw_aload0 14 dX11_hush_14 ?_
  refine aw_iload3 15 dX11_hush_15 ?_
  refine cr_v1 16 dX11_hush_16 (c_X11_lensAt hC hl) ckV_RX11_137 cd_X11_lensAt hC.xo.1 vc11 rfl rfl (Nat.le_of_ble_eq_true rfl) ⟨⟨by decide, by decide⟩, by decide, by decide⟩ rfl ?_
  refine aw_astore7 19 dX11_hush_19 rfl ?_
  refine aw_aload5 21 dX11_hush_21 ?_
  refine aw_ifnull 23 dX11_hush_23 ?_
  refine aw_aload6 26 dX11_hush_26 ?_
  refine aw_ifnull 28 dX11_hush_28 ?_
  refine aw_aload7 31 dX11_hush_31 ?_
  refine aw_ifnonnull 33 38 dX11_hush_33 (by decide) ?_
  refine aw_iload4 38 dX11_hush_38 ?_
  refine cr_s1 40 dX11_hush_40 (cr_sd c_X11_isHour) ckS_RX11_144 cd_X11_isHour rfl (Nat.le_of_ble_eq_true rfl) ⟨⟨by decide, by decide⟩, by decide, by decide⟩ rfl ?_
  refine aw_ifne_b 43 49 dX11_hush_43 (by decide) (fun h43 => ?_) (fun h43 => ?_)
  · refine aw_aload5 49 dX11_hush_49 ?_
    refine aw_get 51 dX11_hush_51 ckF_RX11_147_3 (hC.pc p hp).2.2.2.1 ((hC.pc p hp).2.2.2.2.2.2.2.2.1.trans (if_pos hno)) ?_
    refine aw_ifnonnullN 54 dX11_hush_54 ?_
    refine aw_iload2 57 dX11_hush_57 ?_
    refine aw_iload1 58 dX11_hush_58 ?_
    refine aw_icmp_ltN 59 65 (f) (p) dX11_hush_59 (by decide) rfl rfl (by omega) (by omega) (fun h59 => ?_) (fun h59 => ?_)
    · refine aw_aload5 65 dX11_hush_65 ?_
      refine na_obj 67 5 (A) dX11_hush_67 ckN_RX11_163 rfl hA (by decide) (by decide) (fun M hd => ?_)
      have hk := hd.2.1
      replace hR := hR.trans ((hd.kp (S := fun _ => False) hA).kr hC.m1 (fun b q => q.elim))
      have hM1 := hd.1
      obtain ⟨hk1, hC⟩ := hCb.hin hk0 hC hd hA
      clear hd
      refine aw_dup 70 dX11_hush_70 rfl ?_
      refine aw_aload7 71 dX11_hush_71 ?_
      refine aw_iload4 73 dX11_hush_73 ?_
      refine aw_aload0 75 dX11_hush_75 ?_
      refine aw_aload5 76 dX11_hush_76 ?_
      refine aw_aload7 78 dX11_hush_78 ?_
      refine aw_iload4 80 dX11_hush_80 ?_
      refine ap_v1 82 dX11_hush_82 (c_X11_sealOf hC hp hl) ckV_RX11_153 cd_X11_sealOf hC.xo.1 vc11 rfl rfl (Nat.le_of_ble_eq_true rfl) ⟨⟨by decide, by decide⟩, by decide, by decide⟩ rfl (fun M hs => ?_)
      replace hR := hR.trans (hs.kp.kr hC.m1 (fun b q => by omega))
      replace hk1 := hk1.trans (hs.kpS (Or.inl rfl))
      replace hC := hC.wd8 hs
      replace hk := (congrFun hs.2.1 _).trans hk
      replace hM1 := hs.1.trans hM1
      refine aw_aload6 85 dX11_hush_85 ?_
      refine ap_i 87 dX11_hush_87 (c_X6_init hk) ckI_RX11_165 cd_X6_init rfl rfl (Nat.le_of_ble_eq_true rfl) ⟨⟨by decide, by decide⟩, by decide, by decide⟩ (fun M hq => ?_)
      replace hR := hR.trans (hq.1.kp.kr hC.m1 (fun b q => by omega))
      obtain ⟨hk2, hC⟩ := hCb.hi hk1 hC hq.1 (by omega)
      replace hk := (congrFun hq.1.2.1 _).trans hk
      replace hM1 := hq.1.1.trans hM1
      refine fp_put 90 dX11_hush_90 ckF_RX11_147_3 ckP3_4 (hC.pc p hp).2.2.2.1 rfl rfl (fun M hd => ?_)
      have h49 := (hC.pc p hp).1
      have hlt : α 0 p ≠ A := apart (hC.kdp hp).1 hk (by decide)
      replace hR := hR.trans (hd.toWd.kp.kr hC.m1 (fun b q => by omega))
      have hkq : M.2.1 (α 0 p) = (3, 5) := (congrFun hd.2.1 _).trans (hC.kdp hp).1
      have hpq := hd.2.2.1
      have hka := (congrFun hd.2.1 _).trans hk
      have z := hd.toWd.2.2 A hlt.symm
      replace hC := hC.hsh hp hl hfp hh (by omega) hk hq.2.1 hq.2.2.1 hq.2.2.2.1 hq.2.2.2.2.1 hq.2.2.2.2.2 hd
      refine aw_aload5 93 dX11_hush_93 ?_
      refine aw_get 95 dX11_hush_95 ckF_RX11_147_3 hkq hpq ?_
      refine aw_get 98 dX11_hush_98 ckF_RX11_160_6 hka ((congrFun z 4).trans hq.2.2.2.1) ?_
      refine aw_iret 101 dX11_hush_101 rfl (by decide) (by decide) ?_
      exact ⟨rfl, hR, _, hC⟩
    · exact absurd h59 (by omega)
  · exact absurd hh h43

def rmX11_change : Room := { frames := 6, cells := 2, slots := 10, locals := 134 }
set_option maxHeartbeats 4000000 in
set_option maxRecDepth 100000 in
theorem n0000_X11_change {M0 : Mem} {τ : TT} {α : AT} {v : Int32} {u : Int32} {w : Int32} {s : Int32} {h l i n : Int32} (hC : CW τ α M0) (hno : ¬ ir v (nP τ)) (hno2 : ¬ ir u (nP τ)) (hno3 : ¬ ir w (nL τ)) (hno4 : ¬ irg s 0 3) : CK mX11_change rmX11_change [.int v, .int u, .int w, .int h, .int s, .int l, .int i, .int n] M0 (.int (-1)) (tu τ 0 0 0) := by
  refine am_of rfl rfl (ls := [some (.ref 2), some (.int v), some (.int u), some (.int w), some (.int h), some (.int s), some (.int l), some (.int i), some (.int n), none, none, none, none, none]) rfl ?_
  suffices HH : ∀ M, (CW τ α M) → (Kr M0 M) → AW mX11_change rmX11_change (fun r' M' => r' = (some (.int (-1))) ∧ (fun M2 => Kr M0 M2 ∧ ∃ α2, CW (tu τ 0 0 0) α2 M2) M') 0 [some (.ref 2), some (.int v), some (.int u), some (.int w), some (.int h), some (.int s), some (.int l), some (.int i), some (.int n), none, none, none, none, none] [] M 0 0 from HH M0 hC (Kr.rf _)
  intro M hC hR
  refine aw_aload0 0 dX11_change_0 ?_
  refine aw_ic0 1 dX11_change_1 ?_
  refine fp_put 2 dX11_change_2 ckF_RX11_64_11 ckP11_12 hC.xo.1 rfl rfl (fun M hd => ?_)
  replace hR := hR.trans (hd.toWd.kp.kr hC.m1 (fun b q => by omega))
  replace hC := hC.flt hd
  clear hd
  refine aw_aload0 5 dX11_change_5 ?_
  refine aw_iload1 6 dX11_change_6 ?_
  refine cr_v1 7 dX11_change_7 (n_X11_pictureAt hC hno) ckV_RX11_106 cd_X11_pictureAt hC.xo.1 vc11 rfl rfl (Nat.le_of_ble_eq_true rfl) ⟨⟨by decide, by decide⟩, by decide, by decide⟩ rfl ?_
  refine aw_astoreN9 10 dX11_change_10 rfl ?_
  refine aw_aload0 12 dX11_change_12 ?_
  refine aw_iload2 13 dX11_change_13 ?_
  refine cr_v1 14 dX11_change_14 (n_X11_pictureAt hC hno2) ckV_RX11_106 cd_X11_pictureAt hC.xo.1 vc11 rfl rfl (Nat.le_of_ble_eq_true rfl) ⟨⟨by decide, by decide⟩, by decide, by decide⟩ rfl ?_
  refine aw_astoreN10 17 dX11_change_17 rfl ?_
  refine aw_aload0 19 dX11_change_19 ?_
  refine aw_iload3 20 dX11_change_20 ?_
  refine cr_v1 21 dX11_change_21 (n_X11_lensAt hC hno3) ckV_RX11_137 cd_X11_lensAt hC.xo.1 vc11 rfl rfl (Nat.le_of_ble_eq_true rfl) ⟨⟨by decide, by decide⟩, by decide, by decide⟩ rfl ?_
  refine aw_astoreN11 24 dX11_change_24 rfl ?_
  refine aw_aload0 26 dX11_change_26 ?_
  refine aw_iload5 27 dX11_change_27 ?_
  refine cr_v1 29 dX11_change_29 (n_X11_sheetAt hC hno4) ckV_RX11_68 cd_X11_sheetAt hC.xo.1 vc11 rfl rfl (Nat.le_of_ble_eq_true rfl) ⟨⟨by decide, by decide⟩, by decide, by decide⟩ rfl ?_
  refine aw_astoreN12 32 dX11_change_32 rfl ?_
  refine aw_aloadN9 34 dX11_change_34 ?_
  refine aw_ifnullN 36 54 dX11_change_36 (by decide) ?_
  refine aw_icm1 54 dX11_change_54 ?_
  refine aw_iret 55 dX11_change_55 rfl (Nat.zero_le _) (Nat.zero_le _) ?_
  exact ⟨rfl, hR, α, hC⟩

set_option maxHeartbeats 4000000 in
set_option maxRecDepth 100000 in
theorem n0001_X11_change {M0 : Mem} {τ : TT} {α : AT} {v : Int32} {u : Int32} {w : Int32} {k : Nat} {h l i n : Int32} (hC : CW τ α M0) (hno : ¬ ir v (nP τ)) (hno2 : ¬ ir u (nP τ)) (hno3 : ¬ ir w (nL τ)) (hk : k < 4) : CK mX11_change rmX11_change [.int v, .int u, .int w, .int h, .int (nI k), .int l, .int i, .int n] M0 (.int (-1)) (tu τ 0 0 0) := by
  refine am_of rfl rfl (ls := [some (.ref 2), some (.int v), some (.int u), some (.int w), some (.int h), some (.int (nI k)), some (.int l), some (.int i), some (.int n), none, none, none, none, none]) rfl ?_
  suffices HH : ∀ M, (CW τ α M) → (Kr M0 M) → AW mX11_change rmX11_change (fun r' M' => r' = (some (.int (-1))) ∧ (fun M2 => Kr M0 M2 ∧ ∃ α2, CW (tu τ 0 0 0) α2 M2) M') 0 [some (.ref 2), some (.int v), some (.int u), some (.int w), some (.int h), some (.int (nI k)), some (.int l), some (.int i), some (.int n), none, none, none, none, none] [] M 0 0 from HH M0 hC (Kr.rf _)
  intro M hC hR
  refine aw_aload0 0 dX11_change_0 ?_
  refine aw_ic0 1 dX11_change_1 ?_
  refine fp_put 2 dX11_change_2 ckF_RX11_64_11 ckP11_12 hC.xo.1 rfl rfl (fun M hd => ?_)
  replace hR := hR.trans (hd.toWd.kp.kr hC.m1 (fun b q => by omega))
  replace hC := hC.flt hd
  clear hd
  refine aw_aload0 5 dX11_change_5 ?_
  refine aw_iload1 6 dX11_change_6 ?_
  refine cr_v1 7 dX11_change_7 (n_X11_pictureAt hC hno) ckV_RX11_106 cd_X11_pictureAt hC.xo.1 vc11 rfl rfl (Nat.le_of_ble_eq_true rfl) ⟨⟨by decide, by decide⟩, by decide, by decide⟩ rfl ?_
  refine aw_astoreN9 10 dX11_change_10 rfl ?_
  refine aw_aload0 12 dX11_change_12 ?_
  refine aw_iload2 13 dX11_change_13 ?_
  refine cr_v1 14 dX11_change_14 (n_X11_pictureAt hC hno2) ckV_RX11_106 cd_X11_pictureAt hC.xo.1 vc11 rfl rfl (Nat.le_of_ble_eq_true rfl) ⟨⟨by decide, by decide⟩, by decide, by decide⟩ rfl ?_
  refine aw_astoreN10 17 dX11_change_17 rfl ?_
  refine aw_aload0 19 dX11_change_19 ?_
  refine aw_iload3 20 dX11_change_20 ?_
  refine cr_v1 21 dX11_change_21 (n_X11_lensAt hC hno3) ckV_RX11_137 cd_X11_lensAt hC.xo.1 vc11 rfl rfl (Nat.le_of_ble_eq_true rfl) ⟨⟨by decide, by decide⟩, by decide, by decide⟩ rfl ?_
  refine aw_astoreN11 24 dX11_change_24 rfl ?_
  refine aw_aload0 26 dX11_change_26 ?_
  refine aw_iload5 27 dX11_change_27 ?_
  refine cr_v1 29 dX11_change_29 (c_X11_sheetAt hC hk) ckV_RX11_68 cd_X11_sheetAt hC.xo.1 vc11 rfl rfl (Nat.le_of_ble_eq_true rfl) ⟨⟨by decide, by decide⟩, by decide, by decide⟩ rfl ?_
  refine aw_astore12 32 dX11_change_32 rfl ?_
  refine aw_aloadN9 34 dX11_change_34 ?_
  refine aw_ifnullN 36 54 dX11_change_36 (by decide) ?_
  refine aw_icm1 54 dX11_change_54 ?_
  refine aw_iret 55 dX11_change_55 rfl (Nat.zero_le _) (Nat.zero_le _) ?_
  exact ⟨rfl, hR, α, hC⟩

set_option maxHeartbeats 4000000 in
set_option maxRecDepth 100000 in
theorem n0010_X11_change {M0 : Mem} {τ : TT} {α : AT} {v : Int32} {u : Int32} {a : Nat} {s : Int32} {h l i n : Int32} (hC : CW τ α M0) (hno : ¬ ir v (nP τ)) (hno2 : ¬ ir u (nP τ)) (hl : a < nL τ) (hno4 : ¬ irg s 0 3) : CK mX11_change rmX11_change [.int v, .int u, .int (nI a), .int h, .int s, .int l, .int i, .int n] M0 (.int (-1)) (tu τ 0 0 0) := by
  refine am_of rfl rfl (ls := [some (.ref 2), some (.int v), some (.int u), some (.int (nI a)), some (.int h), some (.int s), some (.int l), some (.int i), some (.int n), none, none, none, none, none]) rfl ?_
  suffices HH : ∀ M, (CW τ α M) → (Kr M0 M) → AW mX11_change rmX11_change (fun r' M' => r' = (some (.int (-1))) ∧ (fun M2 => Kr M0 M2 ∧ ∃ α2, CW (tu τ 0 0 0) α2 M2) M') 0 [some (.ref 2), some (.int v), some (.int u), some (.int (nI a)), some (.int h), some (.int s), some (.int l), some (.int i), some (.int n), none, none, none, none, none] [] M 0 0 from HH M0 hC (Kr.rf _)
  intro M hC hR
  refine aw_aload0 0 dX11_change_0 ?_
  refine aw_ic0 1 dX11_change_1 ?_
  refine fp_put 2 dX11_change_2 ckF_RX11_64_11 ckP11_12 hC.xo.1 rfl rfl (fun M hd => ?_)
  replace hR := hR.trans (hd.toWd.kp.kr hC.m1 (fun b q => by omega))
  replace hC := hC.flt hd
  clear hd
  refine aw_aload0 5 dX11_change_5 ?_
  refine aw_iload1 6 dX11_change_6 ?_
  refine cr_v1 7 dX11_change_7 (n_X11_pictureAt hC hno) ckV_RX11_106 cd_X11_pictureAt hC.xo.1 vc11 rfl rfl (Nat.le_of_ble_eq_true rfl) ⟨⟨by decide, by decide⟩, by decide, by decide⟩ rfl ?_
  refine aw_astoreN9 10 dX11_change_10 rfl ?_
  refine aw_aload0 12 dX11_change_12 ?_
  refine aw_iload2 13 dX11_change_13 ?_
  refine cr_v1 14 dX11_change_14 (n_X11_pictureAt hC hno2) ckV_RX11_106 cd_X11_pictureAt hC.xo.1 vc11 rfl rfl (Nat.le_of_ble_eq_true rfl) ⟨⟨by decide, by decide⟩, by decide, by decide⟩ rfl ?_
  refine aw_astoreN10 17 dX11_change_17 rfl ?_
  refine aw_aload0 19 dX11_change_19 ?_
  refine aw_iload3 20 dX11_change_20 ?_
  refine cr_v1 21 dX11_change_21 (c_X11_lensAt hC hl) ckV_RX11_137 cd_X11_lensAt hC.xo.1 vc11 rfl rfl (Nat.le_of_ble_eq_true rfl) ⟨⟨by decide, by decide⟩, by decide, by decide⟩ rfl ?_
  refine aw_astore11 24 dX11_change_24 rfl ?_
  refine aw_aload0 26 dX11_change_26 ?_
  refine aw_iload5 27 dX11_change_27 ?_
  refine cr_v1 29 dX11_change_29 (n_X11_sheetAt hC hno4) ckV_RX11_68 cd_X11_sheetAt hC.xo.1 vc11 rfl rfl (Nat.le_of_ble_eq_true rfl) ⟨⟨by decide, by decide⟩, by decide, by decide⟩ rfl ?_
  refine aw_astoreN12 32 dX11_change_32 rfl ?_
  refine aw_aloadN9 34 dX11_change_34 ?_
  refine aw_ifnullN 36 54 dX11_change_36 (by decide) ?_
  refine aw_icm1 54 dX11_change_54 ?_
  refine aw_iret 55 dX11_change_55 rfl (Nat.zero_le _) (Nat.zero_le _) ?_
  exact ⟨rfl, hR, α, hC⟩

set_option maxHeartbeats 4000000 in
set_option maxRecDepth 100000 in
theorem n0011_X11_change {M0 : Mem} {τ : TT} {α : AT} {v : Int32} {u : Int32} {a : Nat} {k : Nat} {h l i n : Int32} (hC : CW τ α M0) (hno : ¬ ir v (nP τ)) (hno2 : ¬ ir u (nP τ)) (hl : a < nL τ) (hk : k < 4) : CK mX11_change rmX11_change [.int v, .int u, .int (nI a), .int h, .int (nI k), .int l, .int i, .int n] M0 (.int (-1)) (tu τ 0 0 0) := by
  refine am_of rfl rfl (ls := [some (.ref 2), some (.int v), some (.int u), some (.int (nI a)), some (.int h), some (.int (nI k)), some (.int l), some (.int i), some (.int n), none, none, none, none, none]) rfl ?_
  suffices HH : ∀ M, (CW τ α M) → (Kr M0 M) → AW mX11_change rmX11_change (fun r' M' => r' = (some (.int (-1))) ∧ (fun M2 => Kr M0 M2 ∧ ∃ α2, CW (tu τ 0 0 0) α2 M2) M') 0 [some (.ref 2), some (.int v), some (.int u), some (.int (nI a)), some (.int h), some (.int (nI k)), some (.int l), some (.int i), some (.int n), none, none, none, none, none] [] M 0 0 from HH M0 hC (Kr.rf _)
  intro M hC hR
  refine aw_aload0 0 dX11_change_0 ?_
  refine aw_ic0 1 dX11_change_1 ?_
  refine fp_put 2 dX11_change_2 ckF_RX11_64_11 ckP11_12 hC.xo.1 rfl rfl (fun M hd => ?_)
  replace hR := hR.trans (hd.toWd.kp.kr hC.m1 (fun b q => by omega))
  replace hC := hC.flt hd
  clear hd
  refine aw_aload0 5 dX11_change_5 ?_
  refine aw_iload1 6 dX11_change_6 ?_
  refine cr_v1 7 dX11_change_7 (n_X11_pictureAt hC hno) ckV_RX11_106 cd_X11_pictureAt hC.xo.1 vc11 rfl rfl (Nat.le_of_ble_eq_true rfl) ⟨⟨by decide, by decide⟩, by decide, by decide⟩ rfl ?_
  refine aw_astoreN9 10 dX11_change_10 rfl ?_
  refine aw_aload0 12 dX11_change_12 ?_
  refine aw_iload2 13 dX11_change_13 ?_
  refine cr_v1 14 dX11_change_14 (n_X11_pictureAt hC hno2) ckV_RX11_106 cd_X11_pictureAt hC.xo.1 vc11 rfl rfl (Nat.le_of_ble_eq_true rfl) ⟨⟨by decide, by decide⟩, by decide, by decide⟩ rfl ?_
  refine aw_astoreN10 17 dX11_change_17 rfl ?_
  refine aw_aload0 19 dX11_change_19 ?_
  refine aw_iload3 20 dX11_change_20 ?_
  refine cr_v1 21 dX11_change_21 (c_X11_lensAt hC hl) ckV_RX11_137 cd_X11_lensAt hC.xo.1 vc11 rfl rfl (Nat.le_of_ble_eq_true rfl) ⟨⟨by decide, by decide⟩, by decide, by decide⟩ rfl ?_
  refine aw_astore11 24 dX11_change_24 rfl ?_
  refine aw_aload0 26 dX11_change_26 ?_
  refine aw_iload5 27 dX11_change_27 ?_
  refine cr_v1 29 dX11_change_29 (c_X11_sheetAt hC hk) ckV_RX11_68 cd_X11_sheetAt hC.xo.1 vc11 rfl rfl (Nat.le_of_ble_eq_true rfl) ⟨⟨by decide, by decide⟩, by decide, by decide⟩ rfl ?_
  refine aw_astore12 32 dX11_change_32 rfl ?_
  refine aw_aloadN9 34 dX11_change_34 ?_
  refine aw_ifnullN 36 54 dX11_change_36 (by decide) ?_
  refine aw_icm1 54 dX11_change_54 ?_
  refine aw_iret 55 dX11_change_55 rfl (Nat.zero_le _) (Nat.zero_le _) ?_
  exact ⟨rfl, hR, α, hC⟩

set_option maxHeartbeats 4000000 in
set_option maxRecDepth 100000 in
theorem n0100_X11_change {M0 : Mem} {τ : TT} {α : AT} {v : Int32} {f : Nat} {w : Int32} {s : Int32} {h l i n : Int32} (hC : CW τ α M0) (hno : ¬ ir v (nP τ)) (hf : f < nP τ) (hno3 : ¬ ir w (nL τ)) (hno4 : ¬ irg s 0 3) : CK mX11_change rmX11_change [.int v, .int (nI f), .int w, .int h, .int s, .int l, .int i, .int n] M0 (.int (-1)) (tu τ 0 0 0) := by
  refine am_of rfl rfl (ls := [some (.ref 2), some (.int v), some (.int (nI f)), some (.int w), some (.int h), some (.int s), some (.int l), some (.int i), some (.int n), none, none, none, none, none]) rfl ?_
  suffices HH : ∀ M, (CW τ α M) → (Kr M0 M) → AW mX11_change rmX11_change (fun r' M' => r' = (some (.int (-1))) ∧ (fun M2 => Kr M0 M2 ∧ ∃ α2, CW (tu τ 0 0 0) α2 M2) M') 0 [some (.ref 2), some (.int v), some (.int (nI f)), some (.int w), some (.int h), some (.int s), some (.int l), some (.int i), some (.int n), none, none, none, none, none] [] M 0 0 from HH M0 hC (Kr.rf _)
  intro M hC hR
  refine aw_aload0 0 dX11_change_0 ?_
  refine aw_ic0 1 dX11_change_1 ?_
  refine fp_put 2 dX11_change_2 ckF_RX11_64_11 ckP11_12 hC.xo.1 rfl rfl (fun M hd => ?_)
  replace hR := hR.trans (hd.toWd.kp.kr hC.m1 (fun b q => by omega))
  replace hC := hC.flt hd
  clear hd
  refine aw_aload0 5 dX11_change_5 ?_
  refine aw_iload1 6 dX11_change_6 ?_
  refine cr_v1 7 dX11_change_7 (n_X11_pictureAt hC hno) ckV_RX11_106 cd_X11_pictureAt hC.xo.1 vc11 rfl rfl (Nat.le_of_ble_eq_true rfl) ⟨⟨by decide, by decide⟩, by decide, by decide⟩ rfl ?_
  refine aw_astoreN9 10 dX11_change_10 rfl ?_
  refine aw_aload0 12 dX11_change_12 ?_
  refine aw_iload2 13 dX11_change_13 ?_
  refine cr_v1 14 dX11_change_14 (c_X11_pictureAt hC hf) ckV_RX11_106 cd_X11_pictureAt hC.xo.1 vc11 rfl rfl (Nat.le_of_ble_eq_true rfl) ⟨⟨by decide, by decide⟩, by decide, by decide⟩ rfl ?_
  refine aw_astore10 17 dX11_change_17 rfl ?_
  refine aw_aload0 19 dX11_change_19 ?_
  refine aw_iload3 20 dX11_change_20 ?_
  refine cr_v1 21 dX11_change_21 (n_X11_lensAt hC hno3) ckV_RX11_137 cd_X11_lensAt hC.xo.1 vc11 rfl rfl (Nat.le_of_ble_eq_true rfl) ⟨⟨by decide, by decide⟩, by decide, by decide⟩ rfl ?_
  refine aw_astoreN11 24 dX11_change_24 rfl ?_
  refine aw_aload0 26 dX11_change_26 ?_
  refine aw_iload5 27 dX11_change_27 ?_
  refine cr_v1 29 dX11_change_29 (n_X11_sheetAt hC hno4) ckV_RX11_68 cd_X11_sheetAt hC.xo.1 vc11 rfl rfl (Nat.le_of_ble_eq_true rfl) ⟨⟨by decide, by decide⟩, by decide, by decide⟩ rfl ?_
  refine aw_astoreN12 32 dX11_change_32 rfl ?_
  refine aw_aloadN9 34 dX11_change_34 ?_
  refine aw_ifnullN 36 54 dX11_change_36 (by decide) ?_
  refine aw_icm1 54 dX11_change_54 ?_
  refine aw_iret 55 dX11_change_55 rfl (Nat.zero_le _) (Nat.zero_le _) ?_
  exact ⟨rfl, hR, α, hC⟩

set_option maxHeartbeats 4000000 in
set_option maxRecDepth 100000 in
theorem n0101_X11_change {M0 : Mem} {τ : TT} {α : AT} {v : Int32} {f : Nat} {w : Int32} {k : Nat} {h l i n : Int32} (hC : CW τ α M0) (hno : ¬ ir v (nP τ)) (hf : f < nP τ) (hno3 : ¬ ir w (nL τ)) (hk : k < 4) : CK mX11_change rmX11_change [.int v, .int (nI f), .int w, .int h, .int (nI k), .int l, .int i, .int n] M0 (.int (-1)) (tu τ 0 0 0) := by
  refine am_of rfl rfl (ls := [some (.ref 2), some (.int v), some (.int (nI f)), some (.int w), some (.int h), some (.int (nI k)), some (.int l), some (.int i), some (.int n), none, none, none, none, none]) rfl ?_
  suffices HH : ∀ M, (CW τ α M) → (Kr M0 M) → AW mX11_change rmX11_change (fun r' M' => r' = (some (.int (-1))) ∧ (fun M2 => Kr M0 M2 ∧ ∃ α2, CW (tu τ 0 0 0) α2 M2) M') 0 [some (.ref 2), some (.int v), some (.int (nI f)), some (.int w), some (.int h), some (.int (nI k)), some (.int l), some (.int i), some (.int n), none, none, none, none, none] [] M 0 0 from HH M0 hC (Kr.rf _)
  intro M hC hR
  refine aw_aload0 0 dX11_change_0 ?_
  refine aw_ic0 1 dX11_change_1 ?_
  refine fp_put 2 dX11_change_2 ckF_RX11_64_11 ckP11_12 hC.xo.1 rfl rfl (fun M hd => ?_)
  replace hR := hR.trans (hd.toWd.kp.kr hC.m1 (fun b q => by omega))
  replace hC := hC.flt hd
  clear hd
  refine aw_aload0 5 dX11_change_5 ?_
  refine aw_iload1 6 dX11_change_6 ?_
  refine cr_v1 7 dX11_change_7 (n_X11_pictureAt hC hno) ckV_RX11_106 cd_X11_pictureAt hC.xo.1 vc11 rfl rfl (Nat.le_of_ble_eq_true rfl) ⟨⟨by decide, by decide⟩, by decide, by decide⟩ rfl ?_
  refine aw_astoreN9 10 dX11_change_10 rfl ?_
  refine aw_aload0 12 dX11_change_12 ?_
  refine aw_iload2 13 dX11_change_13 ?_
  refine cr_v1 14 dX11_change_14 (c_X11_pictureAt hC hf) ckV_RX11_106 cd_X11_pictureAt hC.xo.1 vc11 rfl rfl (Nat.le_of_ble_eq_true rfl) ⟨⟨by decide, by decide⟩, by decide, by decide⟩ rfl ?_
  refine aw_astore10 17 dX11_change_17 rfl ?_
  refine aw_aload0 19 dX11_change_19 ?_
  refine aw_iload3 20 dX11_change_20 ?_
  refine cr_v1 21 dX11_change_21 (n_X11_lensAt hC hno3) ckV_RX11_137 cd_X11_lensAt hC.xo.1 vc11 rfl rfl (Nat.le_of_ble_eq_true rfl) ⟨⟨by decide, by decide⟩, by decide, by decide⟩ rfl ?_
  refine aw_astoreN11 24 dX11_change_24 rfl ?_
  refine aw_aload0 26 dX11_change_26 ?_
  refine aw_iload5 27 dX11_change_27 ?_
  refine cr_v1 29 dX11_change_29 (c_X11_sheetAt hC hk) ckV_RX11_68 cd_X11_sheetAt hC.xo.1 vc11 rfl rfl (Nat.le_of_ble_eq_true rfl) ⟨⟨by decide, by decide⟩, by decide, by decide⟩ rfl ?_
  refine aw_astore12 32 dX11_change_32 rfl ?_
  refine aw_aloadN9 34 dX11_change_34 ?_
  refine aw_ifnullN 36 54 dX11_change_36 (by decide) ?_
  refine aw_icm1 54 dX11_change_54 ?_
  refine aw_iret 55 dX11_change_55 rfl (Nat.zero_le _) (Nat.zero_le _) ?_
  exact ⟨rfl, hR, α, hC⟩

set_option maxHeartbeats 4000000 in
set_option maxRecDepth 100000 in
theorem n0110_X11_change {M0 : Mem} {τ : TT} {α : AT} {v : Int32} {f : Nat} {a : Nat} {s : Int32} {h l i n : Int32} (hC : CW τ α M0) (hno : ¬ ir v (nP τ)) (hf : f < nP τ) (hl : a < nL τ) (hno4 : ¬ irg s 0 3) : CK mX11_change rmX11_change [.int v, .int (nI f), .int (nI a), .int h, .int s, .int l, .int i, .int n] M0 (.int (-1)) (tu τ 0 0 0) := by
  refine am_of rfl rfl (ls := [some (.ref 2), some (.int v), some (.int (nI f)), some (.int (nI a)), some (.int h), some (.int s), some (.int l), some (.int i), some (.int n), none, none, none, none, none]) rfl ?_
  suffices HH : ∀ M, (CW τ α M) → (Kr M0 M) → AW mX11_change rmX11_change (fun r' M' => r' = (some (.int (-1))) ∧ (fun M2 => Kr M0 M2 ∧ ∃ α2, CW (tu τ 0 0 0) α2 M2) M') 0 [some (.ref 2), some (.int v), some (.int (nI f)), some (.int (nI a)), some (.int h), some (.int s), some (.int l), some (.int i), some (.int n), none, none, none, none, none] [] M 0 0 from HH M0 hC (Kr.rf _)
  intro M hC hR
  refine aw_aload0 0 dX11_change_0 ?_
  refine aw_ic0 1 dX11_change_1 ?_
  refine fp_put 2 dX11_change_2 ckF_RX11_64_11 ckP11_12 hC.xo.1 rfl rfl (fun M hd => ?_)
  replace hR := hR.trans (hd.toWd.kp.kr hC.m1 (fun b q => by omega))
  replace hC := hC.flt hd
  clear hd
  refine aw_aload0 5 dX11_change_5 ?_
  refine aw_iload1 6 dX11_change_6 ?_
  refine cr_v1 7 dX11_change_7 (n_X11_pictureAt hC hno) ckV_RX11_106 cd_X11_pictureAt hC.xo.1 vc11 rfl rfl (Nat.le_of_ble_eq_true rfl) ⟨⟨by decide, by decide⟩, by decide, by decide⟩ rfl ?_
  refine aw_astoreN9 10 dX11_change_10 rfl ?_
  refine aw_aload0 12 dX11_change_12 ?_
  refine aw_iload2 13 dX11_change_13 ?_
  refine cr_v1 14 dX11_change_14 (c_X11_pictureAt hC hf) ckV_RX11_106 cd_X11_pictureAt hC.xo.1 vc11 rfl rfl (Nat.le_of_ble_eq_true rfl) ⟨⟨by decide, by decide⟩, by decide, by decide⟩ rfl ?_
  refine aw_astore10 17 dX11_change_17 rfl ?_
  refine aw_aload0 19 dX11_change_19 ?_
  refine aw_iload3 20 dX11_change_20 ?_
  refine cr_v1 21 dX11_change_21 (c_X11_lensAt hC hl) ckV_RX11_137 cd_X11_lensAt hC.xo.1 vc11 rfl rfl (Nat.le_of_ble_eq_true rfl) ⟨⟨by decide, by decide⟩, by decide, by decide⟩ rfl ?_
  refine aw_astore11 24 dX11_change_24 rfl ?_
  refine aw_aload0 26 dX11_change_26 ?_
  refine aw_iload5 27 dX11_change_27 ?_
  refine cr_v1 29 dX11_change_29 (n_X11_sheetAt hC hno4) ckV_RX11_68 cd_X11_sheetAt hC.xo.1 vc11 rfl rfl (Nat.le_of_ble_eq_true rfl) ⟨⟨by decide, by decide⟩, by decide, by decide⟩ rfl ?_
  refine aw_astoreN12 32 dX11_change_32 rfl ?_
  refine aw_aloadN9 34 dX11_change_34 ?_
  refine aw_ifnullN 36 54 dX11_change_36 (by decide) ?_
  refine aw_icm1 54 dX11_change_54 ?_
  refine aw_iret 55 dX11_change_55 rfl (Nat.zero_le _) (Nat.zero_le _) ?_
  exact ⟨rfl, hR, α, hC⟩

set_option maxHeartbeats 4000000 in
set_option maxRecDepth 100000 in
theorem n0111_X11_change {M0 : Mem} {τ : TT} {α : AT} {v : Int32} {f : Nat} {a : Nat} {k : Nat} {h l i n : Int32} (hC : CW τ α M0) (hno : ¬ ir v (nP τ)) (hf : f < nP τ) (hl : a < nL τ) (hk : k < 4) : CK mX11_change rmX11_change [.int v, .int (nI f), .int (nI a), .int h, .int (nI k), .int l, .int i, .int n] M0 (.int (-1)) (tu τ 0 0 0) := by
  refine am_of rfl rfl (ls := [some (.ref 2), some (.int v), some (.int (nI f)), some (.int (nI a)), some (.int h), some (.int (nI k)), some (.int l), some (.int i), some (.int n), none, none, none, none, none]) rfl ?_
  suffices HH : ∀ M, (CW τ α M) → (Kr M0 M) → AW mX11_change rmX11_change (fun r' M' => r' = (some (.int (-1))) ∧ (fun M2 => Kr M0 M2 ∧ ∃ α2, CW (tu τ 0 0 0) α2 M2) M') 0 [some (.ref 2), some (.int v), some (.int (nI f)), some (.int (nI a)), some (.int h), some (.int (nI k)), some (.int l), some (.int i), some (.int n), none, none, none, none, none] [] M 0 0 from HH M0 hC (Kr.rf _)
  intro M hC hR
  refine aw_aload0 0 dX11_change_0 ?_
  refine aw_ic0 1 dX11_change_1 ?_
  refine fp_put 2 dX11_change_2 ckF_RX11_64_11 ckP11_12 hC.xo.1 rfl rfl (fun M hd => ?_)
  replace hR := hR.trans (hd.toWd.kp.kr hC.m1 (fun b q => by omega))
  replace hC := hC.flt hd
  clear hd
  refine aw_aload0 5 dX11_change_5 ?_
  refine aw_iload1 6 dX11_change_6 ?_
  refine cr_v1 7 dX11_change_7 (n_X11_pictureAt hC hno) ckV_RX11_106 cd_X11_pictureAt hC.xo.1 vc11 rfl rfl (Nat.le_of_ble_eq_true rfl) ⟨⟨by decide, by decide⟩, by decide, by decide⟩ rfl ?_
  refine aw_astoreN9 10 dX11_change_10 rfl ?_
  refine aw_aload0 12 dX11_change_12 ?_
  refine aw_iload2 13 dX11_change_13 ?_
  refine cr_v1 14 dX11_change_14 (c_X11_pictureAt hC hf) ckV_RX11_106 cd_X11_pictureAt hC.xo.1 vc11 rfl rfl (Nat.le_of_ble_eq_true rfl) ⟨⟨by decide, by decide⟩, by decide, by decide⟩ rfl ?_
  refine aw_astore10 17 dX11_change_17 rfl ?_
  refine aw_aload0 19 dX11_change_19 ?_
  refine aw_iload3 20 dX11_change_20 ?_
  refine cr_v1 21 dX11_change_21 (c_X11_lensAt hC hl) ckV_RX11_137 cd_X11_lensAt hC.xo.1 vc11 rfl rfl (Nat.le_of_ble_eq_true rfl) ⟨⟨by decide, by decide⟩, by decide, by decide⟩ rfl ?_
  refine aw_astore11 24 dX11_change_24 rfl ?_
  refine aw_aload0 26 dX11_change_26 ?_
  refine aw_iload5 27 dX11_change_27 ?_
  refine cr_v1 29 dX11_change_29 (c_X11_sheetAt hC hk) ckV_RX11_68 cd_X11_sheetAt hC.xo.1 vc11 rfl rfl (Nat.le_of_ble_eq_true rfl) ⟨⟨by decide, by decide⟩, by decide, by decide⟩ rfl ?_
  refine aw_astore12 32 dX11_change_32 rfl ?_
  refine aw_aloadN9 34 dX11_change_34 ?_
  refine aw_ifnullN 36 54 dX11_change_36 (by decide) ?_
  refine aw_icm1 54 dX11_change_54 ?_
  refine aw_iret 55 dX11_change_55 rfl (Nat.zero_le _) (Nat.zero_le _) ?_
  exact ⟨rfl, hR, α, hC⟩

set_option maxHeartbeats 4000000 in
set_option maxRecDepth 100000 in
theorem n1000_X11_change {M0 : Mem} {τ : TT} {α : AT} {p : Nat} {u : Int32} {w : Int32} {s : Int32} {h l i n : Int32} (hC : CW τ α M0) (hp : p < nP τ) (hno2 : ¬ ir u (nP τ)) (hno3 : ¬ ir w (nL τ)) (hno4 : ¬ irg s 0 3) : CK mX11_change rmX11_change [.int (nI p), .int u, .int w, .int h, .int s, .int l, .int i, .int n] M0 (.int (-1)) (tu τ 0 0 0) := by
  refine am_of rfl rfl (ls := [some (.ref 2), some (.int (nI p)), some (.int u), some (.int w), some (.int h), some (.int s), some (.int l), some (.int i), some (.int n), none, none, none, none, none]) rfl ?_
  suffices HH : ∀ M, (CW τ α M) → (Kr M0 M) → AW mX11_change rmX11_change (fun r' M' => r' = (some (.int (-1))) ∧ (fun M2 => Kr M0 M2 ∧ ∃ α2, CW (tu τ 0 0 0) α2 M2) M') 0 [some (.ref 2), some (.int (nI p)), some (.int u), some (.int w), some (.int h), some (.int s), some (.int l), some (.int i), some (.int n), none, none, none, none, none] [] M 0 0 from HH M0 hC (Kr.rf _)
  intro M hC hR
  refine aw_aload0 0 dX11_change_0 ?_
  refine aw_ic0 1 dX11_change_1 ?_
  refine fp_put 2 dX11_change_2 ckF_RX11_64_11 ckP11_12 hC.xo.1 rfl rfl (fun M hd => ?_)
  replace hR := hR.trans (hd.toWd.kp.kr hC.m1 (fun b q => by omega))
  replace hC := hC.flt hd
  clear hd
  refine aw_aload0 5 dX11_change_5 ?_
  refine aw_iload1 6 dX11_change_6 ?_
  refine cr_v1 7 dX11_change_7 (c_X11_pictureAt hC hp) ckV_RX11_106 cd_X11_pictureAt hC.xo.1 vc11 rfl rfl (Nat.le_of_ble_eq_true rfl) ⟨⟨by decide, by decide⟩, by decide, by decide⟩ rfl ?_
  refine aw_astore9 10 dX11_change_10 rfl ?_
  refine aw_aload0 12 dX11_change_12 ?_
  refine aw_iload2 13 dX11_change_13 ?_
  refine cr_v1 14 dX11_change_14 (n_X11_pictureAt hC hno2) ckV_RX11_106 cd_X11_pictureAt hC.xo.1 vc11 rfl rfl (Nat.le_of_ble_eq_true rfl) ⟨⟨by decide, by decide⟩, by decide, by decide⟩ rfl ?_
  refine aw_astoreN10 17 dX11_change_17 rfl ?_
  refine aw_aload0 19 dX11_change_19 ?_
  refine aw_iload3 20 dX11_change_20 ?_
  refine cr_v1 21 dX11_change_21 (n_X11_lensAt hC hno3) ckV_RX11_137 cd_X11_lensAt hC.xo.1 vc11 rfl rfl (Nat.le_of_ble_eq_true rfl) ⟨⟨by decide, by decide⟩, by decide, by decide⟩ rfl ?_
  refine aw_astoreN11 24 dX11_change_24 rfl ?_
  refine aw_aload0 26 dX11_change_26 ?_
  refine aw_iload5 27 dX11_change_27 ?_
  refine cr_v1 29 dX11_change_29 (n_X11_sheetAt hC hno4) ckV_RX11_68 cd_X11_sheetAt hC.xo.1 vc11 rfl rfl (Nat.le_of_ble_eq_true rfl) ⟨⟨by decide, by decide⟩, by decide, by decide⟩ rfl ?_
  refine aw_astoreN12 32 dX11_change_32 rfl ?_
  refine aw_aload9 34 dX11_change_34 ?_
  refine aw_ifnull 36 dX11_change_36 ?_
  refine aw_aloadN10 39 dX11_change_39 ?_
  refine aw_ifnullN 41 54 dX11_change_41 (by decide) ?_
  refine aw_icm1 54 dX11_change_54 ?_
  refine aw_iret 55 dX11_change_55 rfl (Nat.zero_le _) (Nat.zero_le _) ?_
  exact ⟨rfl, hR, α, hC⟩

set_option maxHeartbeats 4000000 in
set_option maxRecDepth 100000 in
theorem n1001_X11_change {M0 : Mem} {τ : TT} {α : AT} {p : Nat} {u : Int32} {w : Int32} {k : Nat} {h l i n : Int32} (hC : CW τ α M0) (hp : p < nP τ) (hno2 : ¬ ir u (nP τ)) (hno3 : ¬ ir w (nL τ)) (hk : k < 4) : CK mX11_change rmX11_change [.int (nI p), .int u, .int w, .int h, .int (nI k), .int l, .int i, .int n] M0 (.int (-1)) (tu τ 0 0 0) := by
  refine am_of rfl rfl (ls := [some (.ref 2), some (.int (nI p)), some (.int u), some (.int w), some (.int h), some (.int (nI k)), some (.int l), some (.int i), some (.int n), none, none, none, none, none]) rfl ?_
  suffices HH : ∀ M, (CW τ α M) → (Kr M0 M) → AW mX11_change rmX11_change (fun r' M' => r' = (some (.int (-1))) ∧ (fun M2 => Kr M0 M2 ∧ ∃ α2, CW (tu τ 0 0 0) α2 M2) M') 0 [some (.ref 2), some (.int (nI p)), some (.int u), some (.int w), some (.int h), some (.int (nI k)), some (.int l), some (.int i), some (.int n), none, none, none, none, none] [] M 0 0 from HH M0 hC (Kr.rf _)
  intro M hC hR
  refine aw_aload0 0 dX11_change_0 ?_
  refine aw_ic0 1 dX11_change_1 ?_
  refine fp_put 2 dX11_change_2 ckF_RX11_64_11 ckP11_12 hC.xo.1 rfl rfl (fun M hd => ?_)
  replace hR := hR.trans (hd.toWd.kp.kr hC.m1 (fun b q => by omega))
  replace hC := hC.flt hd
  clear hd
  refine aw_aload0 5 dX11_change_5 ?_
  refine aw_iload1 6 dX11_change_6 ?_
  refine cr_v1 7 dX11_change_7 (c_X11_pictureAt hC hp) ckV_RX11_106 cd_X11_pictureAt hC.xo.1 vc11 rfl rfl (Nat.le_of_ble_eq_true rfl) ⟨⟨by decide, by decide⟩, by decide, by decide⟩ rfl ?_
  refine aw_astore9 10 dX11_change_10 rfl ?_
  refine aw_aload0 12 dX11_change_12 ?_
  refine aw_iload2 13 dX11_change_13 ?_
  refine cr_v1 14 dX11_change_14 (n_X11_pictureAt hC hno2) ckV_RX11_106 cd_X11_pictureAt hC.xo.1 vc11 rfl rfl (Nat.le_of_ble_eq_true rfl) ⟨⟨by decide, by decide⟩, by decide, by decide⟩ rfl ?_
  refine aw_astoreN10 17 dX11_change_17 rfl ?_
  refine aw_aload0 19 dX11_change_19 ?_
  refine aw_iload3 20 dX11_change_20 ?_
  refine cr_v1 21 dX11_change_21 (n_X11_lensAt hC hno3) ckV_RX11_137 cd_X11_lensAt hC.xo.1 vc11 rfl rfl (Nat.le_of_ble_eq_true rfl) ⟨⟨by decide, by decide⟩, by decide, by decide⟩ rfl ?_
  refine aw_astoreN11 24 dX11_change_24 rfl ?_
  refine aw_aload0 26 dX11_change_26 ?_
  refine aw_iload5 27 dX11_change_27 ?_
  refine cr_v1 29 dX11_change_29 (c_X11_sheetAt hC hk) ckV_RX11_68 cd_X11_sheetAt hC.xo.1 vc11 rfl rfl (Nat.le_of_ble_eq_true rfl) ⟨⟨by decide, by decide⟩, by decide, by decide⟩ rfl ?_
  refine aw_astore12 32 dX11_change_32 rfl ?_
  refine aw_aload9 34 dX11_change_34 ?_
  refine aw_ifnull 36 dX11_change_36 ?_
  refine aw_aloadN10 39 dX11_change_39 ?_
  refine aw_ifnullN 41 54 dX11_change_41 (by decide) ?_
  refine aw_icm1 54 dX11_change_54 ?_
  refine aw_iret 55 dX11_change_55 rfl (Nat.zero_le _) (Nat.zero_le _) ?_
  exact ⟨rfl, hR, α, hC⟩

set_option maxHeartbeats 4000000 in
set_option maxRecDepth 100000 in
theorem n1010_X11_change {M0 : Mem} {τ : TT} {α : AT} {p : Nat} {u : Int32} {a : Nat} {s : Int32} {h l i n : Int32} (hC : CW τ α M0) (hp : p < nP τ) (hno2 : ¬ ir u (nP τ)) (hl : a < nL τ) (hno4 : ¬ irg s 0 3) : CK mX11_change rmX11_change [.int (nI p), .int u, .int (nI a), .int h, .int s, .int l, .int i, .int n] M0 (.int (-1)) (tu τ 0 0 0) := by
  refine am_of rfl rfl (ls := [some (.ref 2), some (.int (nI p)), some (.int u), some (.int (nI a)), some (.int h), some (.int s), some (.int l), some (.int i), some (.int n), none, none, none, none, none]) rfl ?_
  suffices HH : ∀ M, (CW τ α M) → (Kr M0 M) → AW mX11_change rmX11_change (fun r' M' => r' = (some (.int (-1))) ∧ (fun M2 => Kr M0 M2 ∧ ∃ α2, CW (tu τ 0 0 0) α2 M2) M') 0 [some (.ref 2), some (.int (nI p)), some (.int u), some (.int (nI a)), some (.int h), some (.int s), some (.int l), some (.int i), some (.int n), none, none, none, none, none] [] M 0 0 from HH M0 hC (Kr.rf _)
  intro M hC hR
  refine aw_aload0 0 dX11_change_0 ?_
  refine aw_ic0 1 dX11_change_1 ?_
  refine fp_put 2 dX11_change_2 ckF_RX11_64_11 ckP11_12 hC.xo.1 rfl rfl (fun M hd => ?_)
  replace hR := hR.trans (hd.toWd.kp.kr hC.m1 (fun b q => by omega))
  replace hC := hC.flt hd
  clear hd
  refine aw_aload0 5 dX11_change_5 ?_
  refine aw_iload1 6 dX11_change_6 ?_
  refine cr_v1 7 dX11_change_7 (c_X11_pictureAt hC hp) ckV_RX11_106 cd_X11_pictureAt hC.xo.1 vc11 rfl rfl (Nat.le_of_ble_eq_true rfl) ⟨⟨by decide, by decide⟩, by decide, by decide⟩ rfl ?_
  refine aw_astore9 10 dX11_change_10 rfl ?_
  refine aw_aload0 12 dX11_change_12 ?_
  refine aw_iload2 13 dX11_change_13 ?_
  refine cr_v1 14 dX11_change_14 (n_X11_pictureAt hC hno2) ckV_RX11_106 cd_X11_pictureAt hC.xo.1 vc11 rfl rfl (Nat.le_of_ble_eq_true rfl) ⟨⟨by decide, by decide⟩, by decide, by decide⟩ rfl ?_
  refine aw_astoreN10 17 dX11_change_17 rfl ?_
  refine aw_aload0 19 dX11_change_19 ?_
  refine aw_iload3 20 dX11_change_20 ?_
  refine cr_v1 21 dX11_change_21 (c_X11_lensAt hC hl) ckV_RX11_137 cd_X11_lensAt hC.xo.1 vc11 rfl rfl (Nat.le_of_ble_eq_true rfl) ⟨⟨by decide, by decide⟩, by decide, by decide⟩ rfl ?_
  refine aw_astore11 24 dX11_change_24 rfl ?_
  refine aw_aload0 26 dX11_change_26 ?_
  refine aw_iload5 27 dX11_change_27 ?_
  refine cr_v1 29 dX11_change_29 (n_X11_sheetAt hC hno4) ckV_RX11_68 cd_X11_sheetAt hC.xo.1 vc11 rfl rfl (Nat.le_of_ble_eq_true rfl) ⟨⟨by decide, by decide⟩, by decide, by decide⟩ rfl ?_
  refine aw_astoreN12 32 dX11_change_32 rfl ?_
  refine aw_aload9 34 dX11_change_34 ?_
  refine aw_ifnull 36 dX11_change_36 ?_
  refine aw_aloadN10 39 dX11_change_39 ?_
  refine aw_ifnullN 41 54 dX11_change_41 (by decide) ?_
  refine aw_icm1 54 dX11_change_54 ?_
  refine aw_iret 55 dX11_change_55 rfl (Nat.zero_le _) (Nat.zero_le _) ?_
  exact ⟨rfl, hR, α, hC⟩

set_option maxHeartbeats 4000000 in
set_option maxRecDepth 100000 in
theorem n1011_X11_change {M0 : Mem} {τ : TT} {α : AT} {p : Nat} {u : Int32} {a : Nat} {k : Nat} {h l i n : Int32} (hC : CW τ α M0) (hp : p < nP τ) (hno2 : ¬ ir u (nP τ)) (hl : a < nL τ) (hk : k < 4) : CK mX11_change rmX11_change [.int (nI p), .int u, .int (nI a), .int h, .int (nI k), .int l, .int i, .int n] M0 (.int (-1)) (tu τ 0 0 0) := by
  refine am_of rfl rfl (ls := [some (.ref 2), some (.int (nI p)), some (.int u), some (.int (nI a)), some (.int h), some (.int (nI k)), some (.int l), some (.int i), some (.int n), none, none, none, none, none]) rfl ?_
  suffices HH : ∀ M, (CW τ α M) → (Kr M0 M) → AW mX11_change rmX11_change (fun r' M' => r' = (some (.int (-1))) ∧ (fun M2 => Kr M0 M2 ∧ ∃ α2, CW (tu τ 0 0 0) α2 M2) M') 0 [some (.ref 2), some (.int (nI p)), some (.int u), some (.int (nI a)), some (.int h), some (.int (nI k)), some (.int l), some (.int i), some (.int n), none, none, none, none, none] [] M 0 0 from HH M0 hC (Kr.rf _)
  intro M hC hR
  refine aw_aload0 0 dX11_change_0 ?_
  refine aw_ic0 1 dX11_change_1 ?_
  refine fp_put 2 dX11_change_2 ckF_RX11_64_11 ckP11_12 hC.xo.1 rfl rfl (fun M hd => ?_)
  replace hR := hR.trans (hd.toWd.kp.kr hC.m1 (fun b q => by omega))
  replace hC := hC.flt hd
  clear hd
  refine aw_aload0 5 dX11_change_5 ?_
  refine aw_iload1 6 dX11_change_6 ?_
  refine cr_v1 7 dX11_change_7 (c_X11_pictureAt hC hp) ckV_RX11_106 cd_X11_pictureAt hC.xo.1 vc11 rfl rfl (Nat.le_of_ble_eq_true rfl) ⟨⟨by decide, by decide⟩, by decide, by decide⟩ rfl ?_
  refine aw_astore9 10 dX11_change_10 rfl ?_
  refine aw_aload0 12 dX11_change_12 ?_
  refine aw_iload2 13 dX11_change_13 ?_
  refine cr_v1 14 dX11_change_14 (n_X11_pictureAt hC hno2) ckV_RX11_106 cd_X11_pictureAt hC.xo.1 vc11 rfl rfl (Nat.le_of_ble_eq_true rfl) ⟨⟨by decide, by decide⟩, by decide, by decide⟩ rfl ?_
  refine aw_astoreN10 17 dX11_change_17 rfl ?_
  refine aw_aload0 19 dX11_change_19 ?_
  refine aw_iload3 20 dX11_change_20 ?_
  refine cr_v1 21 dX11_change_21 (c_X11_lensAt hC hl) ckV_RX11_137 cd_X11_lensAt hC.xo.1 vc11 rfl rfl (Nat.le_of_ble_eq_true rfl) ⟨⟨by decide, by decide⟩, by decide, by decide⟩ rfl ?_
  refine aw_astore11 24 dX11_change_24 rfl ?_
  refine aw_aload0 26 dX11_change_26 ?_
  refine aw_iload5 27 dX11_change_27 ?_
  refine cr_v1 29 dX11_change_29 (c_X11_sheetAt hC hk) ckV_RX11_68 cd_X11_sheetAt hC.xo.1 vc11 rfl rfl (Nat.le_of_ble_eq_true rfl) ⟨⟨by decide, by decide⟩, by decide, by decide⟩ rfl ?_
  refine aw_astore12 32 dX11_change_32 rfl ?_
  refine aw_aload9 34 dX11_change_34 ?_
  refine aw_ifnull 36 dX11_change_36 ?_
  refine aw_aloadN10 39 dX11_change_39 ?_
  refine aw_ifnullN 41 54 dX11_change_41 (by decide) ?_
  refine aw_icm1 54 dX11_change_54 ?_
  refine aw_iret 55 dX11_change_55 rfl (Nat.zero_le _) (Nat.zero_le _) ?_
  exact ⟨rfl, hR, α, hC⟩

set_option maxHeartbeats 4000000 in
set_option maxRecDepth 100000 in
theorem n1100_X11_change {M0 : Mem} {τ : TT} {α : AT} {p : Nat} {f : Nat} {w : Int32} {s : Int32} {h l i n : Int32} (hC : CW τ α M0) (hp : p < nP τ) (hf : f < nP τ) (hno3 : ¬ ir w (nL τ)) (hno4 : ¬ irg s 0 3) : CK mX11_change rmX11_change [.int (nI p), .int (nI f), .int w, .int h, .int s, .int l, .int i, .int n] M0 (.int (-1)) (tu τ 0 0 0) := by
  refine am_of rfl rfl (ls := [some (.ref 2), some (.int (nI p)), some (.int (nI f)), some (.int w), some (.int h), some (.int s), some (.int l), some (.int i), some (.int n), none, none, none, none, none]) rfl ?_
  suffices HH : ∀ M, (CW τ α M) → (Kr M0 M) → AW mX11_change rmX11_change (fun r' M' => r' = (some (.int (-1))) ∧ (fun M2 => Kr M0 M2 ∧ ∃ α2, CW (tu τ 0 0 0) α2 M2) M') 0 [some (.ref 2), some (.int (nI p)), some (.int (nI f)), some (.int w), some (.int h), some (.int s), some (.int l), some (.int i), some (.int n), none, none, none, none, none] [] M 0 0 from HH M0 hC (Kr.rf _)
  intro M hC hR
  refine aw_aload0 0 dX11_change_0 ?_
  refine aw_ic0 1 dX11_change_1 ?_
  refine fp_put 2 dX11_change_2 ckF_RX11_64_11 ckP11_12 hC.xo.1 rfl rfl (fun M hd => ?_)
  replace hR := hR.trans (hd.toWd.kp.kr hC.m1 (fun b q => by omega))
  replace hC := hC.flt hd
  clear hd
  refine aw_aload0 5 dX11_change_5 ?_
  refine aw_iload1 6 dX11_change_6 ?_
  refine cr_v1 7 dX11_change_7 (c_X11_pictureAt hC hp) ckV_RX11_106 cd_X11_pictureAt hC.xo.1 vc11 rfl rfl (Nat.le_of_ble_eq_true rfl) ⟨⟨by decide, by decide⟩, by decide, by decide⟩ rfl ?_
  refine aw_astore9 10 dX11_change_10 rfl ?_
  refine aw_aload0 12 dX11_change_12 ?_
  refine aw_iload2 13 dX11_change_13 ?_
  refine cr_v1 14 dX11_change_14 (c_X11_pictureAt hC hf) ckV_RX11_106 cd_X11_pictureAt hC.xo.1 vc11 rfl rfl (Nat.le_of_ble_eq_true rfl) ⟨⟨by decide, by decide⟩, by decide, by decide⟩ rfl ?_
  refine aw_astore10 17 dX11_change_17 rfl ?_
  refine aw_aload0 19 dX11_change_19 ?_
  refine aw_iload3 20 dX11_change_20 ?_
  refine cr_v1 21 dX11_change_21 (n_X11_lensAt hC hno3) ckV_RX11_137 cd_X11_lensAt hC.xo.1 vc11 rfl rfl (Nat.le_of_ble_eq_true rfl) ⟨⟨by decide, by decide⟩, by decide, by decide⟩ rfl ?_
  refine aw_astoreN11 24 dX11_change_24 rfl ?_
  refine aw_aload0 26 dX11_change_26 ?_
  refine aw_iload5 27 dX11_change_27 ?_
  refine cr_v1 29 dX11_change_29 (n_X11_sheetAt hC hno4) ckV_RX11_68 cd_X11_sheetAt hC.xo.1 vc11 rfl rfl (Nat.le_of_ble_eq_true rfl) ⟨⟨by decide, by decide⟩, by decide, by decide⟩ rfl ?_
  refine aw_astoreN12 32 dX11_change_32 rfl ?_
  refine aw_aload9 34 dX11_change_34 ?_
  refine aw_ifnull 36 dX11_change_36 ?_
  refine aw_aload10 39 dX11_change_39 ?_
  refine aw_ifnull 41 dX11_change_41 ?_
  refine aw_aloadN11 44 dX11_change_44 ?_
  refine aw_ifnullN 46 54 dX11_change_46 (by decide) ?_
  refine aw_icm1 54 dX11_change_54 ?_
  refine aw_iret 55 dX11_change_55 rfl (Nat.zero_le _) (Nat.zero_le _) ?_
  exact ⟨rfl, hR, α, hC⟩

set_option maxHeartbeats 4000000 in
set_option maxRecDepth 100000 in
theorem n1101_X11_change {M0 : Mem} {τ : TT} {α : AT} {p : Nat} {f : Nat} {w : Int32} {k : Nat} {h l i n : Int32} (hC : CW τ α M0) (hp : p < nP τ) (hf : f < nP τ) (hno3 : ¬ ir w (nL τ)) (hk : k < 4) : CK mX11_change rmX11_change [.int (nI p), .int (nI f), .int w, .int h, .int (nI k), .int l, .int i, .int n] M0 (.int (-1)) (tu τ 0 0 0) := by
  refine am_of rfl rfl (ls := [some (.ref 2), some (.int (nI p)), some (.int (nI f)), some (.int w), some (.int h), some (.int (nI k)), some (.int l), some (.int i), some (.int n), none, none, none, none, none]) rfl ?_
  suffices HH : ∀ M, (CW τ α M) → (Kr M0 M) → AW mX11_change rmX11_change (fun r' M' => r' = (some (.int (-1))) ∧ (fun M2 => Kr M0 M2 ∧ ∃ α2, CW (tu τ 0 0 0) α2 M2) M') 0 [some (.ref 2), some (.int (nI p)), some (.int (nI f)), some (.int w), some (.int h), some (.int (nI k)), some (.int l), some (.int i), some (.int n), none, none, none, none, none] [] M 0 0 from HH M0 hC (Kr.rf _)
  intro M hC hR
  refine aw_aload0 0 dX11_change_0 ?_
  refine aw_ic0 1 dX11_change_1 ?_
  refine fp_put 2 dX11_change_2 ckF_RX11_64_11 ckP11_12 hC.xo.1 rfl rfl (fun M hd => ?_)
  replace hR := hR.trans (hd.toWd.kp.kr hC.m1 (fun b q => by omega))
  replace hC := hC.flt hd
  clear hd
  refine aw_aload0 5 dX11_change_5 ?_
  refine aw_iload1 6 dX11_change_6 ?_
  refine cr_v1 7 dX11_change_7 (c_X11_pictureAt hC hp) ckV_RX11_106 cd_X11_pictureAt hC.xo.1 vc11 rfl rfl (Nat.le_of_ble_eq_true rfl) ⟨⟨by decide, by decide⟩, by decide, by decide⟩ rfl ?_
  refine aw_astore9 10 dX11_change_10 rfl ?_
  refine aw_aload0 12 dX11_change_12 ?_
  refine aw_iload2 13 dX11_change_13 ?_
  refine cr_v1 14 dX11_change_14 (c_X11_pictureAt hC hf) ckV_RX11_106 cd_X11_pictureAt hC.xo.1 vc11 rfl rfl (Nat.le_of_ble_eq_true rfl) ⟨⟨by decide, by decide⟩, by decide, by decide⟩ rfl ?_
  refine aw_astore10 17 dX11_change_17 rfl ?_
  refine aw_aload0 19 dX11_change_19 ?_
  refine aw_iload3 20 dX11_change_20 ?_
  refine cr_v1 21 dX11_change_21 (n_X11_lensAt hC hno3) ckV_RX11_137 cd_X11_lensAt hC.xo.1 vc11 rfl rfl (Nat.le_of_ble_eq_true rfl) ⟨⟨by decide, by decide⟩, by decide, by decide⟩ rfl ?_
  refine aw_astoreN11 24 dX11_change_24 rfl ?_
  refine aw_aload0 26 dX11_change_26 ?_
  refine aw_iload5 27 dX11_change_27 ?_
  refine cr_v1 29 dX11_change_29 (c_X11_sheetAt hC hk) ckV_RX11_68 cd_X11_sheetAt hC.xo.1 vc11 rfl rfl (Nat.le_of_ble_eq_true rfl) ⟨⟨by decide, by decide⟩, by decide, by decide⟩ rfl ?_
  refine aw_astore12 32 dX11_change_32 rfl ?_
  refine aw_aload9 34 dX11_change_34 ?_
  refine aw_ifnull 36 dX11_change_36 ?_
  refine aw_aload10 39 dX11_change_39 ?_
  refine aw_ifnull 41 dX11_change_41 ?_
  refine aw_aloadN11 44 dX11_change_44 ?_
  refine aw_ifnullN 46 54 dX11_change_46 (by decide) ?_
  refine aw_icm1 54 dX11_change_54 ?_
  refine aw_iret 55 dX11_change_55 rfl (Nat.zero_le _) (Nat.zero_le _) ?_
  exact ⟨rfl, hR, α, hC⟩

set_option maxHeartbeats 4000000 in
set_option maxRecDepth 100000 in
theorem n1110_X11_change {M0 : Mem} {τ : TT} {α : AT} {p : Nat} {f : Nat} {a : Nat} {s : Int32} {h l i n : Int32} (hC : CW τ α M0) (hp : p < nP τ) (hf : f < nP τ) (hl : a < nL τ) (hno4 : ¬ irg s 0 3) : CK mX11_change rmX11_change [.int (nI p), .int (nI f), .int (nI a), .int h, .int s, .int l, .int i, .int n] M0 (.int (-1)) (tu τ 0 0 0) := by
  refine am_of rfl rfl (ls := [some (.ref 2), some (.int (nI p)), some (.int (nI f)), some (.int (nI a)), some (.int h), some (.int s), some (.int l), some (.int i), some (.int n), none, none, none, none, none]) rfl ?_
  suffices HH : ∀ M, (CW τ α M) → (Kr M0 M) → AW mX11_change rmX11_change (fun r' M' => r' = (some (.int (-1))) ∧ (fun M2 => Kr M0 M2 ∧ ∃ α2, CW (tu τ 0 0 0) α2 M2) M') 0 [some (.ref 2), some (.int (nI p)), some (.int (nI f)), some (.int (nI a)), some (.int h), some (.int s), some (.int l), some (.int i), some (.int n), none, none, none, none, none] [] M 0 0 from HH M0 hC (Kr.rf _)
  intro M hC hR
  refine aw_aload0 0 dX11_change_0 ?_
  refine aw_ic0 1 dX11_change_1 ?_
  refine fp_put 2 dX11_change_2 ckF_RX11_64_11 ckP11_12 hC.xo.1 rfl rfl (fun M hd => ?_)
  replace hR := hR.trans (hd.toWd.kp.kr hC.m1 (fun b q => by omega))
  replace hC := hC.flt hd
  clear hd
  refine aw_aload0 5 dX11_change_5 ?_
  refine aw_iload1 6 dX11_change_6 ?_
  refine cr_v1 7 dX11_change_7 (c_X11_pictureAt hC hp) ckV_RX11_106 cd_X11_pictureAt hC.xo.1 vc11 rfl rfl (Nat.le_of_ble_eq_true rfl) ⟨⟨by decide, by decide⟩, by decide, by decide⟩ rfl ?_
  refine aw_astore9 10 dX11_change_10 rfl ?_
  refine aw_aload0 12 dX11_change_12 ?_
  refine aw_iload2 13 dX11_change_13 ?_
  refine cr_v1 14 dX11_change_14 (c_X11_pictureAt hC hf) ckV_RX11_106 cd_X11_pictureAt hC.xo.1 vc11 rfl rfl (Nat.le_of_ble_eq_true rfl) ⟨⟨by decide, by decide⟩, by decide, by decide⟩ rfl ?_
  refine aw_astore10 17 dX11_change_17 rfl ?_
  refine aw_aload0 19 dX11_change_19 ?_
  refine aw_iload3 20 dX11_change_20 ?_
  refine cr_v1 21 dX11_change_21 (c_X11_lensAt hC hl) ckV_RX11_137 cd_X11_lensAt hC.xo.1 vc11 rfl rfl (Nat.le_of_ble_eq_true rfl) ⟨⟨by decide, by decide⟩, by decide, by decide⟩ rfl ?_
  refine aw_astore11 24 dX11_change_24 rfl ?_
  refine aw_aload0 26 dX11_change_26 ?_
  refine aw_iload5 27 dX11_change_27 ?_
  refine cr_v1 29 dX11_change_29 (n_X11_sheetAt hC hno4) ckV_RX11_68 cd_X11_sheetAt hC.xo.1 vc11 rfl rfl (Nat.le_of_ble_eq_true rfl) ⟨⟨by decide, by decide⟩, by decide, by decide⟩ rfl ?_
  refine aw_astoreN12 32 dX11_change_32 rfl ?_
  refine aw_aload9 34 dX11_change_34 ?_
  refine aw_ifnull 36 dX11_change_36 ?_
  refine aw_aload10 39 dX11_change_39 ?_
  refine aw_ifnull 41 dX11_change_41 ?_
  refine aw_aload11 44 dX11_change_44 ?_
  refine aw_ifnull 46 dX11_change_46 ?_
  refine aw_aloadN12 49 dX11_change_49 ?_
  refine aw_ifnonnullN 51 dX11_change_51 ?_
  refine aw_icm1 54 dX11_change_54 ?_
  refine aw_iret 55 dX11_change_55 rfl (Nat.zero_le _) (Nat.zero_le _) ?_
  exact ⟨rfl, hR, α, hC⟩

set_option maxHeartbeats 4000000 in
set_option maxRecDepth 100000 in
theorem n2_X11_change {M0 : Mem} {τ : TT} {α : AT} {p f a k : Nat} {h l i n : Int32} (hC : CW τ α M0) (hp : p < nP τ) (hf : f < nP τ) (ha : a < nL τ) (hk : k < 4) (hno : ¬ irg h 0 999 ∨ ¬ irg l 0 2) : CK mX11_change rmX11_change [.int (nI p), .int (nI f), .int (nI a), .int h, .int (nI k), .int l, .int i, .int n] M0 (.int (-2)) (tu τ 0 0 0) := by
  refine am_of rfl rfl (ls := [some (.ref 2), some (.int (nI p)), some (.int (nI f)), some (.int (nI a)), some (.int h), some (.int (nI k)), some (.int l), some (.int i), some (.int n), none, none, none, none, none]) rfl ?_
  suffices HH : ∀ M, (CW τ α M) → (Kr M0 M) → AW mX11_change rmX11_change (fun r' M' => r' = (some (.int (-2))) ∧ (fun M2 => Kr M0 M2 ∧ ∃ α2, CW (tu τ 0 0 0) α2 M2) M') 0 [some (.ref 2), some (.int (nI p)), some (.int (nI f)), some (.int (nI a)), some (.int h), some (.int (nI k)), some (.int l), some (.int i), some (.int n), none, none, none, none, none] [] M 0 0 from HH M0 hC (Kr.rf _)
  intro M hC hR
  refine aw_aload0 0 dX11_change_0 ?_
  refine aw_ic0 1 dX11_change_1 ?_
  refine fp_put 2 dX11_change_2 ckF_RX11_64_11 ckP11_12 hC.xo.1 rfl rfl (fun M hd => ?_)
  replace hR := hR.trans (hd.toWd.kp.kr hC.m1 (fun b q => by omega))
  replace hC := hC.flt hd
  clear hd
  refine aw_aload0 5 dX11_change_5 ?_
  refine aw_iload1 6 dX11_change_6 ?_
  refine cr_v1 7 dX11_change_7 (c_X11_pictureAt hC hp) ckV_RX11_106 cd_X11_pictureAt hC.xo.1 vc11 rfl rfl (Nat.le_of_ble_eq_true rfl) ⟨⟨by decide, by decide⟩, by decide, by decide⟩ rfl ?_
  refine aw_astore9 10 dX11_change_10 rfl ?_
  refine aw_aload0 12 dX11_change_12 ?_
  refine aw_iload2 13 dX11_change_13 ?_
  refine cr_v1 14 dX11_change_14 (c_X11_pictureAt hC hf) ckV_RX11_106 cd_X11_pictureAt hC.xo.1 vc11 rfl rfl (Nat.le_of_ble_eq_true rfl) ⟨⟨by decide, by decide⟩, by decide, by decide⟩ rfl ?_
  refine aw_astore10 17 dX11_change_17 rfl ?_
  refine aw_aload0 19 dX11_change_19 ?_
  refine aw_iload3 20 dX11_change_20 ?_
  refine cr_v1 21 dX11_change_21 (c_X11_lensAt hC ha) ckV_RX11_137 cd_X11_lensAt hC.xo.1 vc11 rfl rfl (Nat.le_of_ble_eq_true rfl) ⟨⟨by decide, by decide⟩, by decide, by decide⟩ rfl ?_
  refine aw_astore11 24 dX11_change_24 rfl ?_
  refine aw_aload0 26 dX11_change_26 ?_
  refine aw_iload5 27 dX11_change_27 ?_
  refine cr_v1 29 dX11_change_29 (c_X11_sheetAt hC hk) ckV_RX11_68 cd_X11_sheetAt hC.xo.1 vc11 rfl rfl (Nat.le_of_ble_eq_true rfl) ⟨⟨by decide, by decide⟩, by decide, by decide⟩ rfl ?_
  refine aw_astore12 32 dX11_change_32 rfl ?_
  refine aw_aload9 34 dX11_change_34 ?_
  refine aw_ifnull 36 dX11_change_36 ?_
  refine aw_aload10 39 dX11_change_39 ?_
  refine aw_ifnull 41 dX11_change_41 ?_
  refine aw_aload11 44 dX11_change_44 ?_
  refine aw_ifnull 46 dX11_change_46 ?_
  refine aw_aload12 49 dX11_change_49 ?_
  refine aw_ifnonnull 51 56 dX11_change_51 (by decide) ?_
  refine aw_iload4 56 dX11_change_56 ?_
  refine cr_s1 58 dX11_change_58 (cr_sd c_X11_isHour) ckS_RX11_144 cd_X11_isHour rfl (Nat.le_of_ble_eq_true rfl) ⟨⟨by decide, by decide⟩, by decide, by decide⟩ rfl ?_
  refine aw_ifeq_b 61 72 dX11_change_61 (by decide) (fun h61 => ?_) (fun h61 => ?_)
  · refine aw_bipush 72 (-2) dX11_change_72 (by decide) ?_
    refine aw_iret 74 dX11_change_74 rfl (Nat.zero_le _) (Nat.zero_le _) ?_
    exact ⟨rfl, hR, α, hC⟩
  · refine aw_iload6 64 dX11_change_64 ?_
    refine cr_s1 66 dX11_change_66 (cr_sd c_X11_isLane) ckS_RX11_76 cd_X11_isLane rfl (Nat.le_of_ble_eq_true rfl) ⟨⟨by decide, by decide⟩, by decide, by decide⟩ rfl ?_
    refine aw_ifne_b 69 75 dX11_change_69 (by decide) (fun h69 => ?_) (fun h69 => ?_)
    · exact (hno.elim (fun q => q h61) (fun q => q h69)).elim
    · refine aw_bipush 72 (-2) dX11_change_72 (by decide) ?_
      refine aw_iret 74 dX11_change_74 rfl (Nat.zero_le _) (Nat.zero_le _) ?_
      exact ⟨rfl, hR, α, hC⟩

set_option maxHeartbeats 4000000 in
set_option maxRecDepth 100000 in
theorem n3_X11_change {M0 : Mem} {τ : TT} {α : AT} {p f a k : Nat} {h l i n : Int32} (hC : CW τ α M0) (hp : p < nP τ) (hf : f < nP τ) (ha : a < nL τ) (hk : k < 4) (hh : irg h 0 999) (hln : irg l 0 2) (hb : ¬ bar τ k l i n.toInt64 = 0) : CK mX11_change rmX11_change [.int (nI p), .int (nI f), .int (nI a), .int h, .int (nI k), .int l, .int i, .int n] M0 (.int (-10 - bar τ k l i n.toInt64)) (tu τ 0 0 (bar τ k l i n.toInt64)) := by
  refine am_of rfl rfl (ls := [some (.ref 2), some (.int (nI p)), some (.int (nI f)), some (.int (nI a)), some (.int h), some (.int (nI k)), some (.int l), some (.int i), some (.int n), none, none, none, none, none]) rfl ?_
  suffices HH : ∀ M, (CW τ α M) → (Kr M0 M) → AW mX11_change rmX11_change (fun r' M' => r' = (some (.int (-10 - bar τ k l i n.toInt64))) ∧ (fun M2 => Kr M0 M2 ∧ ∃ α2, CW (tu τ 0 0 (bar τ k l i n.toInt64)) α2 M2) M') 0 [some (.ref 2), some (.int (nI p)), some (.int (nI f)), some (.int (nI a)), some (.int h), some (.int (nI k)), some (.int l), some (.int i), some (.int n), none, none, none, none, none] [] M 0 0 from HH M0 hC (Kr.rf _)
  intro M hC hR
  refine aw_aload0 0 dX11_change_0 ?_
  refine aw_ic0 1 dX11_change_1 ?_
  refine fp_put 2 dX11_change_2 ckF_RX11_64_11 ckP11_12 hC.xo.1 rfl rfl (fun M hd => ?_)
  replace hR := hR.trans (hd.toWd.kp.kr hC.m1 (fun b q => by omega))
  replace hC := hC.flt hd
  clear hd
  refine aw_aload0 5 dX11_change_5 ?_
  refine aw_iload1 6 dX11_change_6 ?_
  refine cr_v1 7 dX11_change_7 (c_X11_pictureAt hC hp) ckV_RX11_106 cd_X11_pictureAt hC.xo.1 vc11 rfl rfl (Nat.le_of_ble_eq_true rfl) ⟨⟨by decide, by decide⟩, by decide, by decide⟩ rfl ?_
  refine aw_astore9 10 dX11_change_10 rfl ?_
  refine aw_aload0 12 dX11_change_12 ?_
  refine aw_iload2 13 dX11_change_13 ?_
  refine cr_v1 14 dX11_change_14 (c_X11_pictureAt hC hf) ckV_RX11_106 cd_X11_pictureAt hC.xo.1 vc11 rfl rfl (Nat.le_of_ble_eq_true rfl) ⟨⟨by decide, by decide⟩, by decide, by decide⟩ rfl ?_
  refine aw_astore10 17 dX11_change_17 rfl ?_
  refine aw_aload0 19 dX11_change_19 ?_
  refine aw_iload3 20 dX11_change_20 ?_
  refine cr_v1 21 dX11_change_21 (c_X11_lensAt hC ha) ckV_RX11_137 cd_X11_lensAt hC.xo.1 vc11 rfl rfl (Nat.le_of_ble_eq_true rfl) ⟨⟨by decide, by decide⟩, by decide, by decide⟩ rfl ?_
  refine aw_astore11 24 dX11_change_24 rfl ?_
  refine aw_aload0 26 dX11_change_26 ?_
  refine aw_iload5 27 dX11_change_27 ?_
  refine cr_v1 29 dX11_change_29 (c_X11_sheetAt hC hk) ckV_RX11_68 cd_X11_sheetAt hC.xo.1 vc11 rfl rfl (Nat.le_of_ble_eq_true rfl) ⟨⟨by decide, by decide⟩, by decide, by decide⟩ rfl ?_
  refine aw_astore12 32 dX11_change_32 rfl ?_
  refine aw_aload9 34 dX11_change_34 ?_
  refine aw_ifnull 36 dX11_change_36 ?_
  refine aw_aload10 39 dX11_change_39 ?_
  refine aw_ifnull 41 dX11_change_41 ?_
  refine aw_aload11 44 dX11_change_44 ?_
  refine aw_ifnull 46 dX11_change_46 ?_
  refine aw_aload12 49 dX11_change_49 ?_
  refine aw_ifnonnull 51 56 dX11_change_51 (by decide) ?_
  refine aw_iload4 56 dX11_change_56 ?_
  refine cr_s1 58 dX11_change_58 (cr_sd c_X11_isHour) ckS_RX11_144 cd_X11_isHour rfl (Nat.le_of_ble_eq_true rfl) ⟨⟨by decide, by decide⟩, by decide, by decide⟩ rfl ?_
  refine aw_ifeq_b 61 72 dX11_change_61 (by decide) (fun h61 => ?_) (fun h61 => ?_)
  · exact absurd hh h61
  · refine aw_iload6 64 dX11_change_64 ?_
    refine cr_s1 66 dX11_change_66 (cr_sd c_X11_isLane) ckS_RX11_76 cd_X11_isLane rfl (Nat.le_of_ble_eq_true rfl) ⟨⟨by decide, by decide⟩, by decide, by decide⟩ rfl ?_
    refine aw_ifne_b 69 75 dX11_change_69 (by decide) (fun h69 => ?_) (fun h69 => ?_)
    · refine aw_aload0 75 dX11_change_75 ?_
      refine aw_aload12 76 dX11_change_76 ?_
      refine aw_iload6 78 dX11_change_78 ?_
      refine aw_iload7 80 dX11_change_80 ?_
      refine aw_iload8 82 dX11_change_82 ?_
      refine ap_v1 84 dX11_change_84 (n_X11_readActs hC hk hb) ckV_RX11_168 cd_X11_readActs hC.xo.1 vc11 rfl rfl (Nat.le_of_ble_eq_true rfl) ⟨⟨by decide, by decide⟩, by decide, by decide⟩ rfl (fun M hd => ?_)
      replace hR := hR.trans (hd.toWd.kp.kr hC.m1 (fun b q => by omega))
      replace hC := hC.flt hd
      rw [tu_ch] at hC
      refine aw_istore13 87 dX11_change_87 rfl ?_
      refine aw_iload13 89 dX11_change_89 ?_
      refine aw_if_eq 91 97 dX11_change_91 (by decide) (fun h91 => ?_) (fun h91 => ?_)
      · exact absurd h91 (bar_nz hb)
      · refine aw_iload13 94 dX11_change_94 ?_
        refine aw_iret 96 dX11_change_96 rfl (Nat.zero_le _) (Nat.zero_le _) ?_
        exact ⟨rfl, hR, α, hC⟩
    · exact absurd hln h69

set_option maxHeartbeats 4000000 in
set_option maxRecDepth 100000 in
theorem n4_X11_change {M0 : Mem} {τ : TT} {α : AT} {p f a k i n e : Nat} {h l : Int32} (hC : CW τ α M0) (hp : p < nP τ) (hf : f < nP τ) (ha : a < nL τ) (hk : k < 4) (hh : irg h 0 999) (hln : irg l 0 2) (h0 : ¬ τ 28 k < 0) (hll : τ 29 k = l) (hi : i + n ≤ ssz τ k) (hqr : rdA (fun j => τ 30 (60 * k + i + j)) n 5 0 [] = .inl e) : CK mX11_change rmX11_change [.int (nI p), .int (nI f), .int (nI a), .int h, .int (nI k), .int l, .int (nI i), .int (nI n)] M0 (.int (-100 - nI e)) (tu τ 0 0 0) := by
  refine am_of rfl rfl (ls := [some (.ref 2), some (.int (nI p)), some (.int (nI f)), some (.int (nI a)), some (.int h), some (.int (nI k)), some (.int l), some (.int (nI i)), some (.int (nI n)), none, none, none, none, none]) rfl ?_
  suffices HH : ∀ M, (CW τ α M) → (Kr M0 M) → AW mX11_change rmX11_change (fun r' M' => r' = (some (.int (-100 - nI e))) ∧ (fun M2 => Kr M0 M2 ∧ ∃ α2, CW (tu τ 0 0 0) α2 M2) M') 0 [some (.ref 2), some (.int (nI p)), some (.int (nI f)), some (.int (nI a)), some (.int h), some (.int (nI k)), some (.int l), some (.int (nI i)), some (.int (nI n)), none, none, none, none, none] [] M 0 0 from HH M0 hC (Kr.rf _)
  intro M hC hR
  have h60 := (hC.ws.ok hk h0).1
  have he := rdA_pos 5 0 [] e (Nat.zero_le n) hqr
  refine aw_aload0 0 dX11_change_0 ?_
  refine aw_ic0 1 dX11_change_1 ?_
  refine fp_put 2 dX11_change_2 ckF_RX11_64_11 ckP11_12 hC.xo.1 rfl rfl (fun M hd => ?_)
  replace hR := hR.trans (hd.toWd.kp.kr hC.m1 (fun b q => by omega))
  replace hC := hC.flt hd
  clear hd
  refine aw_aload0 5 dX11_change_5 ?_
  refine aw_iload1 6 dX11_change_6 ?_
  refine cr_v1 7 dX11_change_7 (c_X11_pictureAt hC hp) ckV_RX11_106 cd_X11_pictureAt hC.xo.1 vc11 rfl rfl (Nat.le_of_ble_eq_true rfl) ⟨⟨by decide, by decide⟩, by decide, by decide⟩ rfl ?_
  refine aw_astore9 10 dX11_change_10 rfl ?_
  refine aw_aload0 12 dX11_change_12 ?_
  refine aw_iload2 13 dX11_change_13 ?_
  refine cr_v1 14 dX11_change_14 (c_X11_pictureAt hC hf) ckV_RX11_106 cd_X11_pictureAt hC.xo.1 vc11 rfl rfl (Nat.le_of_ble_eq_true rfl) ⟨⟨by decide, by decide⟩, by decide, by decide⟩ rfl ?_
  refine aw_astore10 17 dX11_change_17 rfl ?_
  refine aw_aload0 19 dX11_change_19 ?_
  refine aw_iload3 20 dX11_change_20 ?_
  refine cr_v1 21 dX11_change_21 (c_X11_lensAt hC ha) ckV_RX11_137 cd_X11_lensAt hC.xo.1 vc11 rfl rfl (Nat.le_of_ble_eq_true rfl) ⟨⟨by decide, by decide⟩, by decide, by decide⟩ rfl ?_
  refine aw_astore11 24 dX11_change_24 rfl ?_
  refine aw_aload0 26 dX11_change_26 ?_
  refine aw_iload5 27 dX11_change_27 ?_
  refine cr_v1 29 dX11_change_29 (c_X11_sheetAt hC hk) ckV_RX11_68 cd_X11_sheetAt hC.xo.1 vc11 rfl rfl (Nat.le_of_ble_eq_true rfl) ⟨⟨by decide, by decide⟩, by decide, by decide⟩ rfl ?_
  refine aw_astore12 32 dX11_change_32 rfl ?_
  refine aw_aload9 34 dX11_change_34 ?_
  refine aw_ifnull 36 dX11_change_36 ?_
  refine aw_aload10 39 dX11_change_39 ?_
  refine aw_ifnull 41 dX11_change_41 ?_
  refine aw_aload11 44 dX11_change_44 ?_
  refine aw_ifnull 46 dX11_change_46 ?_
  refine aw_aload12 49 dX11_change_49 ?_
  refine aw_ifnonnull 51 56 dX11_change_51 (by decide) ?_
  refine aw_iload4 56 dX11_change_56 ?_
  refine cr_s1 58 dX11_change_58 (cr_sd c_X11_isHour) ckS_RX11_144 cd_X11_isHour rfl (Nat.le_of_ble_eq_true rfl) ⟨⟨by decide, by decide⟩, by decide, by decide⟩ rfl ?_
  refine aw_ifeq_b 61 72 dX11_change_61 (by decide) (fun h61 => ?_) (fun h61 => ?_)
  · exact absurd hh h61
  · refine aw_iload6 64 dX11_change_64 ?_
    refine cr_s1 66 dX11_change_66 (cr_sd c_X11_isLane) ckS_RX11_76 cd_X11_isLane rfl (Nat.le_of_ble_eq_true rfl) ⟨⟨by decide, by decide⟩, by decide, by decide⟩ rfl ?_
    refine aw_ifne_b 69 75 dX11_change_69 (by decide) (fun h69 => ?_) (fun h69 => ?_)
    · refine aw_aload0 75 dX11_change_75 ?_
      refine aw_aload12 76 dX11_change_76 ?_
      refine aw_iload6 78 dX11_change_78 ?_
      refine aw_iload7 80 dX11_change_80 ?_
      refine aw_iload8 82 dX11_change_82 ?_
      refine ap_v1 84 dX11_change_84 (c_X11_readActs hC hk h0 hll hi) ckV_RX11_168 cd_X11_readActs hC.xo.1 vc11 rfl rfl (Nat.le_of_ble_eq_true rfl) ⟨⟨by decide, by decide⟩, by decide, by decide⟩ rfl (fun M hr => ?_)
      replace hR := hR.trans (hr.1.kp.kr hC.m1 (fun b q => by unfold SR at q; omega))
      replace hC := hC.srr hr.1 hr.2.1
      have hqe : rdA (fun j => τ 30 (60 * k + i + j)) n 5 0 [] = _ := hqr
      rw [show rdA (fun j => tu τ 0 0 0 30 (60 * k + i + j)) n 5 0 [] = _ from hqr]
      refine aw_istore13 87 dX11_change_87 rfl ?_
      refine aw_iload13 89 dX11_change_89 ?_
      refine aw_if_eq 91 97 dX11_change_91 (by decide) (fun h91 => ?_) (fun h91 => ?_)
      · exact absurd h91 (raC_ne (by omega))
      · refine aw_iload13 94 dX11_change_94 ?_
        refine aw_iret 96 dX11_change_96 rfl (Nat.zero_le _) (Nat.zero_le _) ?_
        exact ⟨rfl, hR, α, hC⟩
    · exact absurd hln h69

set_option maxHeartbeats 4000000 in
set_option maxRecDepth 100000 in
theorem n5_X11_change {M0 : Mem} {τ : TT} {α : AT} {p f a k i n : Nat} {h l : Int32} {ls : List (Int32 × Nat)} (hC : CW τ α M0) (hp : p < nP τ) (hf : f < nP τ) (ha : a < nL τ) (hk : k < 4) (hh : irg h 0 999) (hln : irg l 0 2) (h0 : ¬ τ 28 k < 0) (hll : τ 29 k = l) (hi : i + n ≤ ssz τ k) (hqr : rdA (fun j => τ 30 (60 * k + i + j)) n 5 0 [] = .inr ls) (hno : ¬ τ 16 p < 0) : CK mX11_change rmX11_change [.int (nI p), .int (nI f), .int (nI a), .int h, .int (nI k), .int l, .int (nI i), .int (nI n)] M0 (.int (-3)) (tu τ 0 0 0) := by
  refine am_of rfl rfl (ls := [some (.ref 2), some (.int (nI p)), some (.int (nI f)), some (.int (nI a)), some (.int h), some (.int (nI k)), some (.int l), some (.int (nI i)), some (.int (nI n)), none, none, none, none, none]) rfl ?_
  suffices HH : ∀ M, (CW τ α M) → (Kr M0 M) → AW mX11_change rmX11_change (fun r' M' => r' = (some (.int (-3))) ∧ (fun M2 => Kr M0 M2 ∧ ∃ α2, CW (tu τ 0 0 0) α2 M2) M') 0 [some (.ref 2), some (.int (nI p)), some (.int (nI f)), some (.int (nI a)), some (.int h), some (.int (nI k)), some (.int l), some (.int (nI i)), some (.int (nI n)), none, none, none, none, none] [] M 0 0 from HH M0 hC (Kr.rf _)
  intro M hC hR
  have h12 := hC.wp.1.1
  refine aw_aload0 0 dX11_change_0 ?_
  refine aw_ic0 1 dX11_change_1 ?_
  refine fp_put 2 dX11_change_2 ckF_RX11_64_11 ckP11_12 hC.xo.1 rfl rfl (fun M hd => ?_)
  replace hR := hR.trans (hd.toWd.kp.kr hC.m1 (fun b q => by omega))
  replace hC := hC.flt hd
  clear hd
  refine aw_aload0 5 dX11_change_5 ?_
  refine aw_iload1 6 dX11_change_6 ?_
  refine cr_v1 7 dX11_change_7 (c_X11_pictureAt hC hp) ckV_RX11_106 cd_X11_pictureAt hC.xo.1 vc11 rfl rfl (Nat.le_of_ble_eq_true rfl) ⟨⟨by decide, by decide⟩, by decide, by decide⟩ rfl ?_
  refine aw_astore9 10 dX11_change_10 rfl ?_
  refine aw_aload0 12 dX11_change_12 ?_
  refine aw_iload2 13 dX11_change_13 ?_
  refine cr_v1 14 dX11_change_14 (c_X11_pictureAt hC hf) ckV_RX11_106 cd_X11_pictureAt hC.xo.1 vc11 rfl rfl (Nat.le_of_ble_eq_true rfl) ⟨⟨by decide, by decide⟩, by decide, by decide⟩ rfl ?_
  refine aw_astore10 17 dX11_change_17 rfl ?_
  refine aw_aload0 19 dX11_change_19 ?_
  refine aw_iload3 20 dX11_change_20 ?_
  refine cr_v1 21 dX11_change_21 (c_X11_lensAt hC ha) ckV_RX11_137 cd_X11_lensAt hC.xo.1 vc11 rfl rfl (Nat.le_of_ble_eq_true rfl) ⟨⟨by decide, by decide⟩, by decide, by decide⟩ rfl ?_
  refine aw_astore11 24 dX11_change_24 rfl ?_
  refine aw_aload0 26 dX11_change_26 ?_
  refine aw_iload5 27 dX11_change_27 ?_
  refine cr_v1 29 dX11_change_29 (c_X11_sheetAt hC hk) ckV_RX11_68 cd_X11_sheetAt hC.xo.1 vc11 rfl rfl (Nat.le_of_ble_eq_true rfl) ⟨⟨by decide, by decide⟩, by decide, by decide⟩ rfl ?_
  refine aw_astore12 32 dX11_change_32 rfl ?_
  refine aw_aload9 34 dX11_change_34 ?_
  refine aw_ifnull 36 dX11_change_36 ?_
  refine aw_aload10 39 dX11_change_39 ?_
  refine aw_ifnull 41 dX11_change_41 ?_
  refine aw_aload11 44 dX11_change_44 ?_
  refine aw_ifnull 46 dX11_change_46 ?_
  refine aw_aload12 49 dX11_change_49 ?_
  refine aw_ifnonnull 51 56 dX11_change_51 (by decide) ?_
  refine aw_iload4 56 dX11_change_56 ?_
  refine cr_s1 58 dX11_change_58 (cr_sd c_X11_isHour) ckS_RX11_144 cd_X11_isHour rfl (Nat.le_of_ble_eq_true rfl) ⟨⟨by decide, by decide⟩, by decide, by decide⟩ rfl ?_
  refine aw_ifeq_b 61 72 dX11_change_61 (by decide) (fun h61 => ?_) (fun h61 => ?_)
  · exact absurd hh h61
  · refine aw_iload6 64 dX11_change_64 ?_
    refine cr_s1 66 dX11_change_66 (cr_sd c_X11_isLane) ckS_RX11_76 cd_X11_isLane rfl (Nat.le_of_ble_eq_true rfl) ⟨⟨by decide, by decide⟩, by decide, by decide⟩ rfl ?_
    refine aw_ifne_b 69 75 dX11_change_69 (by decide) (fun h69 => ?_) (fun h69 => ?_)
    · refine aw_aload0 75 dX11_change_75 ?_
      refine aw_aload12 76 dX11_change_76 ?_
      refine aw_iload6 78 dX11_change_78 ?_
      refine aw_iload7 80 dX11_change_80 ?_
      refine aw_iload8 82 dX11_change_82 ?_
      refine ap_v1 84 dX11_change_84 (c_X11_readActs hC hk h0 hll hi) ckV_RX11_168 cd_X11_readActs hC.xo.1 vc11 rfl rfl (Nat.le_of_ble_eq_true rfl) ⟨⟨by decide, by decide⟩, by decide, by decide⟩ rfl (fun M hr => ?_)
      replace hR := hR.trans (hr.1.kp.kr hC.m1 (fun b q => by unfold SR at q; omega))
      replace hC := hC.srr hr.1 hr.2.1
      have hqe : rdA (fun j => τ 30 (60 * k + i + j)) n 5 0 [] = _ := hqr
      rw [show rdA (fun j => tu τ 0 0 0 30 (60 * k + i + j)) n 5 0 [] = _ from hqr]
      refine aw_istore13 87 dX11_change_87 rfl ?_
      refine aw_iload13 89 dX11_change_89 ?_
      refine aw_if_eqN 91 97 (0) dX11_change_91 (by decide) rfl (by decide) (fun _ => ?_) (fun h => absurd h (by decide))
      refine aw_aload9 97 dX11_change_97 ?_
      refine aw_get 99 dX11_change_99 ckF_RX11_147_3 (hC.pc p hp).2.2.2.1 ((hC.pc p hp).2.2.2.2.2.2.2.2.1.trans (if_neg hno)) ?_
      refine aw_ifnonnull 102 110 dX11_change_102 (by decide) ?_
      refine aw_bipush 110 (-3) dX11_change_110 (by decide) ?_
      refine aw_iret 112 dX11_change_112 rfl (Nat.zero_le _) (Nat.zero_le _) ?_
      exact ⟨rfl, hR, α, hC⟩
    · exact absurd hln h69

set_option maxHeartbeats 4000000 in
set_option maxRecDepth 100000 in
theorem n6_X11_change {M0 : Mem} {τ : TT} {α : AT} {p f a k i n : Nat} {h l : Int32} {ls : List (Int32 × Nat)} (hC : CW τ α M0) (hp : p < nP τ) (hf : f < nP τ) (ha : a < nL τ) (hk : k < 4) (hh : irg h 0 999) (hln : irg l 0 2) (h0 : ¬ τ 28 k < 0) (hll : τ 29 k = l) (hi : i + n ≤ ssz τ k) (hqr : rdA (fun j => τ 30 (60 * k + i + j)) n 5 0 [] = .inr ls) (hno : τ 16 p < 0) (hfp : p ≤ f) : CK mX11_change rmX11_change [.int (nI p), .int (nI f), .int (nI a), .int h, .int (nI k), .int l, .int (nI i), .int (nI n)] M0 (.int (-3)) (tu τ 0 0 0) := by
  refine am_of rfl rfl (ls := [some (.ref 2), some (.int (nI p)), some (.int (nI f)), some (.int (nI a)), some (.int h), some (.int (nI k)), some (.int l), some (.int (nI i)), some (.int (nI n)), none, none, none, none, none]) rfl ?_
  suffices HH : ∀ M, (CW τ α M) → (Kr M0 M) → AW mX11_change rmX11_change (fun r' M' => r' = (some (.int (-3))) ∧ (fun M2 => Kr M0 M2 ∧ ∃ α2, CW (tu τ 0 0 0) α2 M2) M') 0 [some (.ref 2), some (.int (nI p)), some (.int (nI f)), some (.int (nI a)), some (.int h), some (.int (nI k)), some (.int l), some (.int (nI i)), some (.int (nI n)), none, none, none, none, none] [] M 0 0 from HH M0 hC (Kr.rf _)
  intro M hC hR
  have h12 := hC.wp.1.1
  refine aw_aload0 0 dX11_change_0 ?_
  refine aw_ic0 1 dX11_change_1 ?_
  refine fp_put 2 dX11_change_2 ckF_RX11_64_11 ckP11_12 hC.xo.1 rfl rfl (fun M hd => ?_)
  replace hR := hR.trans (hd.toWd.kp.kr hC.m1 (fun b q => by omega))
  replace hC := hC.flt hd
  clear hd
  refine aw_aload0 5 dX11_change_5 ?_
  refine aw_iload1 6 dX11_change_6 ?_
  refine cr_v1 7 dX11_change_7 (c_X11_pictureAt hC hp) ckV_RX11_106 cd_X11_pictureAt hC.xo.1 vc11 rfl rfl (Nat.le_of_ble_eq_true rfl) ⟨⟨by decide, by decide⟩, by decide, by decide⟩ rfl ?_
  refine aw_astore9 10 dX11_change_10 rfl ?_
  refine aw_aload0 12 dX11_change_12 ?_
  refine aw_iload2 13 dX11_change_13 ?_
  refine cr_v1 14 dX11_change_14 (c_X11_pictureAt hC hf) ckV_RX11_106 cd_X11_pictureAt hC.xo.1 vc11 rfl rfl (Nat.le_of_ble_eq_true rfl) ⟨⟨by decide, by decide⟩, by decide, by decide⟩ rfl ?_
  refine aw_astore10 17 dX11_change_17 rfl ?_
  refine aw_aload0 19 dX11_change_19 ?_
  refine aw_iload3 20 dX11_change_20 ?_
  refine cr_v1 21 dX11_change_21 (c_X11_lensAt hC ha) ckV_RX11_137 cd_X11_lensAt hC.xo.1 vc11 rfl rfl (Nat.le_of_ble_eq_true rfl) ⟨⟨by decide, by decide⟩, by decide, by decide⟩ rfl ?_
  refine aw_astore11 24 dX11_change_24 rfl ?_
  refine aw_aload0 26 dX11_change_26 ?_
  refine aw_iload5 27 dX11_change_27 ?_
  refine cr_v1 29 dX11_change_29 (c_X11_sheetAt hC hk) ckV_RX11_68 cd_X11_sheetAt hC.xo.1 vc11 rfl rfl (Nat.le_of_ble_eq_true rfl) ⟨⟨by decide, by decide⟩, by decide, by decide⟩ rfl ?_
  refine aw_astore12 32 dX11_change_32 rfl ?_
  refine aw_aload9 34 dX11_change_34 ?_
  refine aw_ifnull 36 dX11_change_36 ?_
  refine aw_aload10 39 dX11_change_39 ?_
  refine aw_ifnull 41 dX11_change_41 ?_
  refine aw_aload11 44 dX11_change_44 ?_
  refine aw_ifnull 46 dX11_change_46 ?_
  refine aw_aload12 49 dX11_change_49 ?_
  refine aw_ifnonnull 51 56 dX11_change_51 (by decide) ?_
  refine aw_iload4 56 dX11_change_56 ?_
  refine cr_s1 58 dX11_change_58 (cr_sd c_X11_isHour) ckS_RX11_144 cd_X11_isHour rfl (Nat.le_of_ble_eq_true rfl) ⟨⟨by decide, by decide⟩, by decide, by decide⟩ rfl ?_
  refine aw_ifeq_b 61 72 dX11_change_61 (by decide) (fun h61 => ?_) (fun h61 => ?_)
  · exact absurd hh h61
  · refine aw_iload6 64 dX11_change_64 ?_
    refine cr_s1 66 dX11_change_66 (cr_sd c_X11_isLane) ckS_RX11_76 cd_X11_isLane rfl (Nat.le_of_ble_eq_true rfl) ⟨⟨by decide, by decide⟩, by decide, by decide⟩ rfl ?_
    refine aw_ifne_b 69 75 dX11_change_69 (by decide) (fun h69 => ?_) (fun h69 => ?_)
    · refine aw_aload0 75 dX11_change_75 ?_
      refine aw_aload12 76 dX11_change_76 ?_
      refine aw_iload6 78 dX11_change_78 ?_
      refine aw_iload7 80 dX11_change_80 ?_
      refine aw_iload8 82 dX11_change_82 ?_
      refine ap_v1 84 dX11_change_84 (c_X11_readActs hC hk h0 hll hi) ckV_RX11_168 cd_X11_readActs hC.xo.1 vc11 rfl rfl (Nat.le_of_ble_eq_true rfl) ⟨⟨by decide, by decide⟩, by decide, by decide⟩ rfl (fun M hr => ?_)
      replace hR := hR.trans (hr.1.kp.kr hC.m1 (fun b q => by unfold SR at q; omega))
      replace hC := hC.srr hr.1 hr.2.1
      have hqe : rdA (fun j => τ 30 (60 * k + i + j)) n 5 0 [] = _ := hqr
      rw [show rdA (fun j => tu τ 0 0 0 30 (60 * k + i + j)) n 5 0 [] = _ from hqr]
      refine aw_istore13 87 dX11_change_87 rfl ?_
      refine aw_iload13 89 dX11_change_89 ?_
      refine aw_if_eqN 91 97 (0) dX11_change_91 (by decide) rfl (by decide) (fun _ => ?_) (fun h => absurd h (by decide))
      refine aw_aload9 97 dX11_change_97 ?_
      refine aw_get 99 dX11_change_99 ckF_RX11_147_3 (hC.pc p hp).2.2.2.1 ((hC.pc p hp).2.2.2.2.2.2.2.2.1.trans (if_pos hno)) ?_
      refine aw_ifnonnullN 102 dX11_change_102 ?_
      refine aw_iload2 105 dX11_change_105 ?_
      refine aw_iload1 106 dX11_change_106 ?_
      refine aw_icmp_ltN 107 113 (f) (p) dX11_change_107 (by decide) rfl rfl (by omega) (by omega) (fun h107 => ?_) (fun h107 => ?_)
      · exact absurd h107 (by omega)
      · refine aw_bipush 110 (-3) dX11_change_110 (by decide) ?_
        refine aw_iret 112 dX11_change_112 rfl (Nat.zero_le _) (Nat.zero_le _) ?_
        exact ⟨rfl, hR, α, hC⟩
    · exact absurd hln h69

set_option maxHeartbeats 4000000 in
set_option maxRecDepth 100000 in
theorem c_X11_change {M0 : Mem} {τ : TT} {α : AT} {p f a k i n : Nat} {h l : Int32} {ls : List (Int32 × Nat)} (hC : CW τ α M0) (hp : p < nP τ) (hf : f < nP τ) (ha : a < nL τ) (hk : k < 4) (hh : irg h 0 999) (hln : irg l 0 2) (h0 : ¬ τ 28 k < 0) (hll : τ 29 k = l) (hi : i + n ≤ ssz τ k) (hqr : rdA (fun j => τ 30 (60 * k + i + j)) n 5 0 [] = .inr ls) (hno : τ 16 p < 0) (hfp : f < p) : AP mX11_change rmX11_change [.ref 2, .int (nI p), .int (nI f), .int (nI a), .int h, .int (nI k), .int l, .int (nI i), .int (nI n)] M0 (some (.int (slv τ p a h))) (fun M2 => Kr M0 M2 ∧ ∃ α2, ∀ Af : Nat → Int32, (∀ j, j < ls.length → ∃ a, ls[j]? = some a ∧ actR Af (5 * j) a) → CW (tCh τ p a f h ls.length Af) α2 M2) := by
  refine am_of rfl rfl (ls := [some (.ref 2), some (.int (nI p)), some (.int (nI f)), some (.int (nI a)), some (.int h), some (.int (nI k)), some (.int l), some (.int (nI i)), some (.int (nI n)), none, none, none, none, none]) rfl ?_
  suffices HH : ∀ M, (CW τ α M) → (Kr M0 M) → AW mX11_change rmX11_change (fun r' M' => r' = (some (.int (slv τ p a h))) ∧ (fun M2 => Kr M0 M2 ∧ ∃ α2, ∀ Af : Nat → Int32, (∀ j, j < ls.length → ∃ a, ls[j]? = some a ∧ actR Af (5 * j) a) → CW (tCh τ p a f h ls.length Af) α2 M2) M') 0 [some (.ref 2), some (.int (nI p)), some (.int (nI f)), some (.int (nI a)), some (.int h), some (.int (nI k)), some (.int l), some (.int (nI i)), some (.int (nI n)), none, none, none, none, none] [] M 0 0 from HH M0 hC (Kr.rf _)
  intro M hC hR
  have h12 := hC.wp.1.1
  have hok := rdA_ok 5 0 [] ls hqr (fun _ q => absurd q List.not_mem_nil)
  refine aw_aload0 0 dX11_change_0 ?_
  refine aw_ic0 1 dX11_change_1 ?_
  refine fp_put 2 dX11_change_2 ckF_RX11_64_11 ckP11_12 hC.xo.1 rfl rfl (fun M hd => ?_)
  replace hR := hR.trans (hd.toWd.kp.kr hC.m1 (fun b q => by omega))
  replace hC := hC.flt hd
  clear hd
  refine aw_aload0 5 dX11_change_5 ?_
  refine aw_iload1 6 dX11_change_6 ?_
  refine cr_v1 7 dX11_change_7 (c_X11_pictureAt hC hp) ckV_RX11_106 cd_X11_pictureAt hC.xo.1 vc11 rfl rfl (Nat.le_of_ble_eq_true rfl) ⟨⟨by decide, by decide⟩, by decide, by decide⟩ rfl ?_
  refine aw_astore9 10 dX11_change_10 rfl ?_
  refine aw_aload0 12 dX11_change_12 ?_
  refine aw_iload2 13 dX11_change_13 ?_
  refine cr_v1 14 dX11_change_14 (c_X11_pictureAt hC hf) ckV_RX11_106 cd_X11_pictureAt hC.xo.1 vc11 rfl rfl (Nat.le_of_ble_eq_true rfl) ⟨⟨by decide, by decide⟩, by decide, by decide⟩ rfl ?_
  refine aw_astore10 17 dX11_change_17 rfl ?_
  refine aw_aload0 19 dX11_change_19 ?_
  refine aw_iload3 20 dX11_change_20 ?_
  refine cr_v1 21 dX11_change_21 (c_X11_lensAt hC ha) ckV_RX11_137 cd_X11_lensAt hC.xo.1 vc11 rfl rfl (Nat.le_of_ble_eq_true rfl) ⟨⟨by decide, by decide⟩, by decide, by decide⟩ rfl ?_
  refine aw_astore11 24 dX11_change_24 rfl ?_
  refine aw_aload0 26 dX11_change_26 ?_
  refine aw_iload5 27 dX11_change_27 ?_
  refine cr_v1 29 dX11_change_29 (c_X11_sheetAt hC hk) ckV_RX11_68 cd_X11_sheetAt hC.xo.1 vc11 rfl rfl (Nat.le_of_ble_eq_true rfl) ⟨⟨by decide, by decide⟩, by decide, by decide⟩ rfl ?_
  refine aw_astore12 32 dX11_change_32 rfl ?_
  refine aw_aload9 34 dX11_change_34 ?_
  refine aw_ifnull 36 dX11_change_36 ?_
  refine aw_aload10 39 dX11_change_39 ?_
  refine aw_ifnull 41 dX11_change_41 ?_
  refine aw_aload11 44 dX11_change_44 ?_
  refine aw_ifnull 46 dX11_change_46 ?_
  refine aw_aload12 49 dX11_change_49 ?_
  refine aw_ifnonnull 51 56 dX11_change_51 (by decide) ?_
  refine aw_iload4 56 dX11_change_56 ?_
  refine cr_s1 58 dX11_change_58 (cr_sd c_X11_isHour) ckS_RX11_144 cd_X11_isHour rfl (Nat.le_of_ble_eq_true rfl) ⟨⟨by decide, by decide⟩, by decide, by decide⟩ rfl ?_
  refine aw_ifeq_b 61 72 dX11_change_61 (by decide) (fun h61 => ?_) (fun h61 => ?_)
  · exact absurd hh h61
  · refine aw_iload6 64 dX11_change_64 ?_
    refine cr_s1 66 dX11_change_66 (cr_sd c_X11_isLane) ckS_RX11_76 cd_X11_isLane rfl (Nat.le_of_ble_eq_true rfl) ⟨⟨by decide, by decide⟩, by decide, by decide⟩ rfl ?_
    refine aw_ifne_b 69 75 dX11_change_69 (by decide) (fun h69 => ?_) (fun h69 => ?_)
    · refine aw_aload0 75 dX11_change_75 ?_
      refine aw_aload12 76 dX11_change_76 ?_
      refine aw_iload6 78 dX11_change_78 ?_
      refine aw_iload7 80 dX11_change_80 ?_
      refine aw_iload8 82 dX11_change_82 ?_
      refine ap_v1 84 dX11_change_84 (c_X11_readActs hC hk h0 hll hi) ckV_RX11_168 cd_X11_readActs hC.xo.1 vc11 rfl rfl (Nat.le_of_ble_eq_true rfl) ⟨⟨by decide, by decide⟩, by decide, by decide⟩ rfl (fun M hr => ?_)
      replace hR := hR.trans (hr.1.kp.kr hC.m1 (fun b q => by unfold SR at q; omega))
      replace hC := hC.srr hr.1 hr.2.1
      have hqe : rdA (fun j => τ 30 (60 * k + i + j)) n 5 0 [] = _ := hqr
      rw [show rdA (fun j => tu τ 0 0 0 30 (60 * k + i + j)) n 5 0 [] = _ from hqr]
      have hK := hr.2.2 ls hqr
      clear hr
      have h6 := hC.wl.1
      have h12 := hC.wp.1.1
      have hm := hC.m1
      obtain ⟨A, hA⟩ : ∃ A, M.1 = A := ⟨_, rfl⟩
      have hCb := hC
      have hk0 : Kp SC M M := Kp.rf _ _
      refine aw_istore13 87 dX11_change_87 rfl ?_
      refine aw_iload13 89 dX11_change_89 ?_
      refine aw_if_eqN 91 97 (0) dX11_change_91 (by decide) rfl (by decide) (fun _ => ?_) (fun h => absurd h (by decide))
      refine aw_aload9 97 dX11_change_97 ?_
      refine aw_get 99 dX11_change_99 ckF_RX11_147_3 (hC.pc p hp).2.2.2.1 ((hC.pc p hp).2.2.2.2.2.2.2.2.1.trans (if_pos hno)) ?_
      refine aw_ifnonnullN 102 dX11_change_102 ?_
      refine aw_iload2 105 dX11_change_105 ?_
      refine aw_iload1 106 dX11_change_106 ?_
      refine aw_icmp_ltN 107 113 (f) (p) dX11_change_107 (by decide) rfl rfl (by omega) (by omega) (fun h107 => ?_) (fun h107 => ?_)
      · refine aw_aload9 113 dX11_change_113 ?_
        refine na_obj 115 5 (A) dX11_change_115 ckN_RX11_172 rfl hA (by decide) (by decide) (fun M hd => ?_)
        have hk := hd.2.1
        replace hR := hR.trans ((hd.kp (S := fun _ => False) hA).kr hC.m1 (fun b q => q.elim))
        have hM1 := hd.1
        obtain ⟨hk1, hC⟩ := hCb.hin hk0 hC hd hA
        replace hK := hK.kp (hd.kp (S := fun _ => False) hA) hm (fun q => q) (fun q => q)
        clear hd
        refine aw_dup 118 dX11_change_118 rfl ?_
        refine aw_aload11 119 dX11_change_119 ?_
        refine aw_iload4 121 dX11_change_121 ?_
        refine aw_aload0 123 dX11_change_123 ?_
        refine aw_aload9 124 dX11_change_124 ?_
        refine aw_aload11 126 dX11_change_126 ?_
        refine aw_iload4 128 dX11_change_128 ?_
        refine ap_v1 130 dX11_change_130 (c_X11_sealOf hC hp ha) ckV_RX11_153 cd_X11_sealOf hC.xo.1 vc11 rfl rfl (Nat.le_of_ble_eq_true rfl) ⟨⟨by decide, by decide⟩, by decide, by decide⟩ rfl (fun M hs => ?_)
        have hmm := hC.m1
        replace hK := hK.kp hs.kp hmm (by decide) (by decide)
        replace hR := hR.trans (hs.kp.kr hC.m1 (fun b q => by omega))
        replace hk1 := hk1.trans (hs.kpS (Or.inl rfl))
        replace hC := hC.wd8 hs
        replace hk := (congrFun hs.2.1 _).trans hk
        replace hM1 := hs.1.trans hM1
        refine aw_aload10 133 dX11_change_133 ?_
        refine aw_aload0 135 dX11_change_135 ?_
        refine aw_get 136 dX11_change_136 ckF_RX11_45_11 hC.xo.1 hC.xo.2.2.2.2.2.2.1 ?_
        refine ap_v 139 dX11_change_139 (c_X4_keptActs hM1 (by omega) hC.sx.2.1 hK) ckV_RX11_174 cd_X4_keptActs hC.sx.2.1.1 vc4 rfl rfl (Nat.le_of_ble_eq_true rfl) ⟨⟨by decide, by decide⟩, by decide, by decide⟩ (fun M hc => ?_)
        have hmm := hC.m1
        have hkc : Kp (fun _ => False) _ M := hc.2.1.kp hM1 (by rw [hc.1]; omega)
        replace hR := hR.trans (hkc.kr hmm (fun b q => q.elim))
        have hKB : KA M (A + 1) ls := fun j hj => by
          obtain ⟨b, b1, b2⟩ := hK.2.2 j hj
          exact ⟨b, b1, by rw [hc.2.2.2 j hj]; exact b2⟩
        have hkB := hc.2.2.1
        replace hk := (hc.2.1 A (by omega)).1.trans hk
        replace hk1 := hk1.trans (hkc.mono (fun b q => q.elim))
        replace hC := hC.kpF hkc
        replace hM1 := hc.1
        refine ap_i 142 dX11_change_142 (c0_X0_init hk) ckI_RX11_178 cd_X0_init rfl rfl (Nat.le_of_ble_eq_true rfl) ⟨⟨by decide, by decide⟩, by decide, by decide⟩ (fun M hq => ?_)
        replace hR := hR.trans (hq.1.kp.kr hC.m1 (fun b q => by omega))
        obtain ⟨hk2, hC⟩ := hCb.hi hk1 hC hq.1 (by omega)
        replace hk := (congrFun hq.1.2.1 _).trans hk
        replace hM1 := hq.1.1.trans hM1
        replace hkB := (congrFun hq.1.2.1 _).trans hkB
        replace hKB := hKB.wd hq.1 (by omega)
        refine fp_put 145 dX11_change_145 ckF_RX11_147_3 ckP3_4 (hC.pc p hp).2.2.2.1 rfl rfl (fun M hd => ?_)
        have h49 := (hC.pc p hp).1
        have hlt : α 0 p ≠ A := apart (hC.kdp hp).1 hk (by decide)
        replace hR := hR.trans (hd.toWd.kp.kr hC.m1 (fun b q => by omega))
        have hkq : M.2.1 (α 0 p) = (3, 5) := (congrFun hd.2.1 _).trans (hC.kdp hp).1
        have hpq := hd.2.2.1
        have hka := (congrFun hd.2.1 _).trans hk
        have z := hd.toWd.2.2 A hlt.symm
        have hCo := hC
        have hfin : ∀ Af : Nat → Int32, (∀ j, j < ls.length → ∃ a, ls[j]? = some a ∧ actR Af (5 * j) a) → CW (tCh τ p a f h ls.length Af) (au (au α 3 p A) 4 p (A + 1)) M := fun Af hAf => hCo.chg hp ha hfp hh (by omega) (by omega) hk hq.2.1 hq.2.2.1 hq.2.2.2.1 hq.2.2.2.2.1 hq.2.2.2.2.2 hK.2.1 hok hkB hKB hAf hd
        refine aw_aload9 148 dX11_change_148 ?_
        refine aw_get 150 dX11_change_150 ckF_RX11_147_3 hkq hpq ?_
        refine aw_get 153 dX11_change_153 ckF_RX11_160_0 hka ((congrFun z 2).trans hq.2.2.2.1) ?_
        refine aw_iret 156 dX11_change_156 rfl (by decide) (by decide) ?_
        exact ⟨rfl, hR, _, hfin⟩
      · exact absurd h107 (by omega)
    · exact absurd hln h69

