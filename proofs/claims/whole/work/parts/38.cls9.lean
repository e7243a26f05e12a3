/-! squares read place by place and one by one (gen/cls9.py) -/
def cn (w h : Nat) : Nat → Nat
  | 0 => 0
  | k + 1 => cn w h k + (if k % 4 < w ∧ k / 4 < h then 1 else 0)
theorem cn_at : ∀ w, w < 5 → ∀ h, h < 5 → ∀ k, k < 16 → (k % 4 < w ∧ k / 4 < h) → cn w h k < w * h ∧ cn w h k % w + 4 * (cn w h k / w) = k := by decide +kernel
theorem cn_16 : ∀ w, w < 5 → ∀ h, h < 5 → cn w h 16 = w * h := by decide +kernel
theorem cn_in {w h k : Nat} (c : k % 4 < w ∧ k / 4 < h) : cn w h (k + 1) = cn w h k + 1 := by show cn w h k + _ = _; rw [if_pos c]
theorem cn_out {w h k : Nat} (c : ¬ (k % 4 < w ∧ k / 4 < h)) : cn w h (k + 1) = cn w h k := by show cn w h k + _ = _; rw [if_neg c]; rfl
section
variable {τ : TT} {p : Nat}
theorem plc_cn (hw : WP τ) (hp : p < nP τ) {k : Nat} (hk : k < 16) (c : thr τ p k) : cn (wd τ p) (hg τ p) k < wd τ p * hg τ p ∧ plc τ p (cn (wd τ p) (hg τ p) k) = k := cn_at _ (by have := (hw.2 p hp).1; omega) _ (by have := (hw.2 p hp).2; omega) k hk c
theorem cn_mny (hw : WP τ) (hp : p < nP τ) : cn (wd τ p) (hg τ p) 16 = wd τ p * hg τ p := cn_16 _ (by have := (hw.2 p hp).1; omega) _ (by have := (hw.2 p hp).2; omega)
theorem irg_nn {v : Int32} (h : irg v 0 99) : ¬ v < 0 ∧ ¬ v = -1 ∧ 0 ≤ v ∧ ¬ 99 < v := by
  obtain ⟨k, hk, rfl⟩ := irg_cs h
  exact ⟨nI_pos (by omega), nI_ne1 (by omega), nI_pos' (by omega), by rw [show (99 : Int32) = nI 99 from rfl, nI_ltE (by omega) (by omega)]; omega⟩
theorem csm_eq (hw : WP τ) (hs : SQ τ) (hp : p < nP τ) : ∀ k, k ≤ 16 → csm (brG (hOf τ p)) k = rsum τ p (cn (wd τ p) (hg τ p) k) := by
  intro k
  induction k with
  | zero => intro _; rfl
  | succ k ih =>
    intro hk
    show csm (brG (hOf τ p)) k + _ = _
    rw [ih (by omega)]
    by_cases c : thr τ p k
    · have h1 := irg_nn (hs p hp k (by omega) c)
      have h2 := plc_cn hw hp (by omega) c
      rw [cn_in c, brG_in (u := hOf τ p) c]
      show _ + (if τ 4 (16 * p + k) < 0 then 0 else τ 4 (16 * p + k)) = _ + τ 4 (16 * p + plc τ p (cn (wd τ p) (hg τ p) k))
      rw [if_neg h1.1, h2.2]
    · rw [cn_out c, brG_out (u := hOf τ p) c, if_pos (by decide)]
      exact Int32.add_zero _
theorem sum_eq (hw : WP τ) (hs : SQ τ) (hp : p < nP τ) : csm (brG (hOf τ p)) 16 = rsum τ p (mny τ p) := by
  rw [csm_eq hw hs hp 16 (Nat.le_refl _), cn_mny hw hp]; rfl
theorem lsr_sy (a v : Int32) : (if v < a then v else a) = lsr a v := by
  unfold lsr
  by_cases h : v < a
  · rw [if_pos h, if_neg (Int32.lt_asymm h)]
  · rw [if_neg h]
    by_cases g : a < v
    · rw [if_pos g]
    · rw [if_neg g]; exact Int32.le_antisymm (Int32.not_lt.mp h) (Int32.not_lt.mp g)
theorem gtr_sy (a v : Int32) : (if a < v then v else a) = gtr a v := by
  unfold gtr
  by_cases h : a < v
  · rw [if_pos h, if_neg (Int32.lt_asymm h)]
  · rw [if_neg h]
    by_cases g : v < a
    · rw [if_pos g]
    · rw [if_neg g]; exact Int32.le_antisymm (Int32.not_lt.mp g) (Int32.not_lt.mp h)
theorem thr0 (hw : WP τ) (hp : p < nP τ) : thr τ p 0 := ⟨(hw.2 p hp).1.1, (hw.2 p hp).2.1⟩
theorem clt_eq (hw : WP τ) (hs : SQ τ) (hp : p < nP τ) : ∀ k, 1 ≤ k → k ≤ 16 → clt (brG (hOf τ p)) k = ext τ p 0 (cn (wd τ p) (hg τ p) k) := by
  intro k
  induction k with
  | zero => intro h; omega
  | succ k ih =>
    intro _ hk
    rw [clt_s]
    by_cases c : thr τ p k
    · have h1 := irg_nn (hs p hp k (by omega) c)
      have h2 := plc_cn hw hp (by omega) c
      rw [cn_in c, brG_in (u := hOf τ p) c]
      show (if τ 4 (16 * p + k) = -1 then _ else if τ 4 (16 * p + k) < clt (brG (hOf τ p)) k then τ 4 (16 * p + k) else clt (brG (hOf τ p)) k) = lsr (ext τ p 0 (cn (wd τ p) (hg τ p) k)) (τ 4 (16 * p + plc τ p (cn (wd τ p) (hg τ p) k)))
      rw [if_neg h1.2.1, h2.2]
      by_cases z : k = 0
      · subst z
        show (if τ 4 (16 * p + 0) < 99 then _ else 99) = lsr (τ 4 (16 * p + 0)) (τ 4 (16 * p + 0))
        unfold lsr
        rw [if_neg Int32.lt_irrefl]
        by_cases q : τ 4 (16 * p + 0) < 99
        · rw [if_pos q]
        · rw [if_neg q]; exact Int32.le_antisymm (Int32.not_lt.mp q) (Int32.not_lt.mp h1.2.2.2)
      · rw [ih (by omega) (by omega)]
        exact lsr_sy _ _
    · have hz : k ≠ 0 := fun q => c (q ▸ thr0 hw hp)
      rw [cn_out c, brG_out (u := hOf τ p) c, if_pos rfl]
      exact ih (by omega) (by omega)
theorem cgt_nn (g : Nat → Int32) : ∀ k, 0 ≤ cgt g k := by
  intro k
  induction k with
  | zero => show (0 : Int32) ≤ 0; decide
  | succ k ih =>
    show 0 ≤ (if cgt g k < g k then g k else cgt g k)
    by_cases h : cgt g k < g k
    · rw [if_pos h]; exact Int32.le_trans ih (Int32.le_of_lt h)
    · rw [if_neg h]; exact ih
theorem cgt_eq (hw : WP τ) (hs : SQ τ) (hp : p < nP τ) : ∀ k, 1 ≤ k → k ≤ 16 → cgt (brG (hOf τ p)) k = ext τ p 1 (cn (wd τ p) (hg τ p) k) := by
  intro k
  induction k with
  | zero => intro h; omega
  | succ k ih =>
    intro _ hk
    show (if cgt (brG (hOf τ p)) k < brG (hOf τ p) k then brG (hOf τ p) k else cgt (brG (hOf τ p)) k) = _
    by_cases c : thr τ p k
    · have h1 := irg_nn (hs p hp k (by omega) c)
      have h2 := plc_cn hw hp (by omega) c
      rw [cn_in c, brG_in (u := hOf τ p) c]
      show (if cgt (brG (hOf τ p)) k < τ 4 (16 * p + k) then τ 4 (16 * p + k) else cgt (brG (hOf τ p)) k) = gtr (ext τ p 1 (cn (wd τ p) (hg τ p) k)) (τ 4 (16 * p + plc τ p (cn (wd τ p) (hg τ p) k)))
      rw [h2.2]
      by_cases z : k = 0
      · subst z
        show (if (0 : Int32) < τ 4 (16 * p + 0) then _ else 0) = gtr (τ 4 (16 * p + 0)) (τ 4 (16 * p + 0))
        unfold gtr
        rw [if_neg Int32.lt_irrefl]
        by_cases q : 0 < τ 4 (16 * p + 0)
        · rw [if_pos q]
        · rw [if_neg q]; exact Int32.le_antisymm h1.2.2.1 (Int32.not_lt.mp q)
      · rw [ih (by omega) (by omega)]
        exact gtr_sy _ _
    · have hz : k ≠ 0 := fun q => c (q ▸ thr0 hw hp)
      have hn := cgt_nn (brG (hOf τ p)) k
      rw [cn_out c, brG_out (u := hOf τ p) c, if_neg (fun q => absurd (Int32.lt_of_le_of_lt hn q) (by decide))]
      exact ih (by omega) (by omega)
theorem par99 : ∀ k, k < 100 → nI k &&& 1 = nI k - nI k / 2 * 2 := by decide +kernel
theorem par {v : Int32} (h : irg v 0 99) : v &&& 1 = v - v / 2 * 2 := by
  obtain ⟨k, hk, rfl⟩ := irg_cs h
  exact par99 k (by omega)
theorem agr_eq (hw : WP τ) (hs : SQ τ) (hp : p < nP τ) {m : Int32} : ∀ k, k ≤ 16 → agr (brG (hOf τ p)) m k = (fnd τ p m (min 8 (cn (wd τ p) (hg τ p) k)), min 8 (cn (wd τ p) (hg τ p) k)) := by
  intro k
  induction k with
  | zero => intro _; rfl
  | succ k ih =>
    intro hk
    rw [agr_s, ih (by omega)]
    by_cases c : thr τ p k
    · have h0 := hs p hp k (by omega) c
      have h1 := irg_nn h0
      have h2 := plc_cn hw hp (by omega) c
      rw [cn_in c, brG_in (u := hOf τ p) c]
      generalize cn (wd τ p) (hg τ p) k = z at *
      by_cases c8 : 8 ≤ z
      · rw [if_pos (Or.inl (by show 8 ≤ min 8 z; omega)), show min 8 z = 8 by omega, show min 8 (z + 1) = 8 by omega]
      · have e : min 8 z = z := by omega
        rw [e, show min 8 (z + 1) = z + 1 by omega, if_neg (fun q => by rcases q with q | q; exact c8 q; exact h1.2.1 q)]
        show (if tlB (τ 4 (16 * p + k)) m z then fnd τ p m z + 1 else fnd τ p m z, z + 1) = (fnd τ p m z + bi (soI τ p z m), z + 1)
        have iff : tlB (τ 4 (16 * p + k)) m z ↔ soI τ p z m := by
          unfold tlB soI
          rw [h2.2, par h0]
        by_cases t : tlB (τ 4 (16 * p + k)) m z
        · rw [if_pos t, bi_t (iff.mp t)]
        · rw [if_neg t, bi_f (fun q => t (iff.mpr q)), Int32.add_zero]
    · rw [cn_out c, brG_out (u := hOf τ p) c, if_pos (Or.inr rfl)]
theorem fnd_eq (hw : WP τ) (hs : SQ τ) (hp : p < nP τ) {m : Int32} : (agr (brG (hOf τ p)) m 16).1 = fnd τ p m (min 8 (wd τ p * hg τ p)) := by
  rw [agr_eq hw hs hp 16 (Nat.le_refl _), cn_mny hw hp]
theorem flp_r {v : Int32} (h : irg v 0 99) : irg (flp v) 0 99 := by
  obtain ⟨k, hk, rfl⟩ := irg_cs h
  unfold flp
  by_cases z : k = 0
  · subst z; rw [if_pos (by decide)]; exact irg_mk (k := 1) (by omega)
  · rw [if_neg (nI_ne0 (by omega) (by omega)), show (1 : Int32) = nI 1 from rfl, pk_sub (by omega)]
    exact irg_mk (by omega)
theorem hd_SQ (hw : WP τ) (hs : SQ τ) (hp : p < nP τ) {m : Int32} : ∀ k, k ≤ wd τ p * hg τ p → SQ (hdT τ p m k) := by
  intro k
  induction k with
  | zero => intro _; exact hs
  | succ k ih =>
    intro hk
    have ih := ih (by omega)
    show SQ (if soI (hdT τ p m k) p k m then hdT τ p m k else tu (hdT τ p m k) 4 (16 * p + plc τ p k) (flp (hdT τ p m k 4 (16 * p + plc τ p k))))
    by_cases c : soI (hdT τ p m k) p k m
    · rw [if_pos c]; exact ih
    · rw [if_neg c]
      have hpl := plc_lt (τ := τ) (p := p) (k := k) ⟨(hw.2 p hp).1.1, (hw.2 p hp).1.2.1⟩ (hw.2 p hp).2.2.1 (by omega)
      intro q hq j hj ht
      have hq2 : q < nP (hdT τ p m k) := hq
      have ht2 : thr (hdT τ p m k) q j := ht
      show irg (if 4 = 4 ∧ 16 * q + j = 16 * p + plc τ p k then flp (hdT τ p m k 4 (16 * p + plc τ p k)) else hdT τ p m k 4 (16 * q + j)) 0 99
      by_cases e : 16 * q + j = 16 * p + plc τ p k
      · rw [if_pos ⟨rfl, e⟩, ← e]; exact flp_r (ih q hq2 j hj ht2)
      · rw [if_neg (fun z => e z.2)]; exact ih q hq2 j hj ht2
theorem imp_eq (hw : WP τ) (hs : SQ τ) (hp : p < nP τ) {m : Int32} : ∀ k, k ≤ 16 → (∀ j, j < 16 → (imp (brG (hOf τ p)) m k).1 j = brG (hOf (hdT τ p m (min 8 (cn (wd τ p) (hg τ p) k))) p) j) ∧ (imp (brG (hOf τ p)) m k).2.1 = hdN τ p m (min 8 (cn (wd τ p) (hg τ p) k)) ∧ (imp (brG (hOf τ p)) m k).2.2 = min 8 (cn (wd τ p) (hg τ p) k) := by
  intro k
  induction k with
  | zero => intro _; exact ⟨fun j _ => rfl, rfl, rfl⟩
  | succ k ih =>
    intro hk
    obtain ⟨i1, i2, i3⟩ := ih (by omega)
    rw [imp_s, i2, i3]
    have hj := i1 k (by omega)
    by_cases c : thr τ p k
    · have h2 := plc_cn hw hp (by omega) c
      rw [cn_in c]
      generalize cn (wd τ p) (hg τ p) k = z at *
      by_cases c8 : 8 ≤ z
      · rw [if_pos (Or.inl (by omega)), show min 8 (z + 1) = 8 by omega]
        rw [show min 8 z = 8 by omega] at i1 i2 i3
        exact ⟨i1, i2, i3⟩
      · have e : min 8 z = z := by omega
        rw [e] at i1 i2 i3 hj ⊢
        rw [show min 8 (z + 1) = z + 1 by omega]
        have hq := hd_SQ hw hs hp (m := m) z (by omega)
        have cz : thr (hdT τ p m z) p k := by unfold thr; rw [hd_wd, hd_hg]; exact c
        have h0 := hq p (by rw [hd_nP]; exact hp) k (by omega) cz
        have h1 := irg_nn h0
        rw [brG_in (u := hOf (hdT τ p m z) p) cz] at hj
        have hj : (imp (brG (hOf τ p)) m k).1 k = hdT τ p m z 4 (16 * p + k) := hj
        rw [hj, if_neg (fun q => by rcases q with q | q; exact c8 q; exact h1.2.1 q)]
        have iff : tlB (hdT τ p m z 4 (16 * p + k)) m z ↔ soI (hdT τ p m z) p z m := by
          unfold tlB soI
          rw [hd_plc, h2.2, par h0]
        show (∀ j, j < 16 → (if tlB (hdT τ p m z 4 (16 * p + k)) m z then (imp (brG (hOf τ p)) m k).1 else upg (imp (brG (hOf τ p)) m k).1 k (flp (hdT τ p m z 4 (16 * p + k)))) j = brG (hOf (if soI (hdT τ p m z) p z m then hdT τ p m z else tu (hdT τ p m z) 4 (16 * p + plc τ p z) (flp (hdT τ p m z 4 (16 * p + plc τ p z)))) p) j) ∧ (if tlB (hdT τ p m z 4 (16 * p + k)) m z then hdN τ p m z else hdN τ p m z + 1) = (if soI (hdT τ p m z) p z m then hdN τ p m z else hdN τ p m z + 1) ∧ z + 1 = z + 1
        rw [h2.2]
        by_cases t : tlB (hdT τ p m z 4 (16 * p + k)) m z
        · rw [if_pos t, if_pos (iff.mp t), if_pos t, if_pos (iff.mp t)]
          exact ⟨i1, rfl, rfl⟩
        · have t2 : ¬ soI (hdT τ p m z) p z m := fun q => t (iff.mpr q)
          rw [if_neg t, if_neg t2, if_neg t, if_neg t2]
          refine ⟨fun j hj16 => ?_, rfl, rfl⟩
          by_cases ej : j = k
          · subst ej
            rw [upg_at, brG_in (u := hOf (tu (hdT τ p m z) 4 (16 * p + j) (flp (hdT τ p m z 4 (16 * p + j)))) p) cz]
            show _ = tu (hdT τ p m z) 4 (16 * p + j) (flp (hdT τ p m z 4 (16 * p + j))) 4 (16 * p + j)
            rw [tu_at]
          · rw [upg_ne ej, i1 j hj16]
            show brG (hOf (hdT τ p m z) p) j = (if j % 4 < wd (hdT τ p m z) p ∧ j / 4 < hg (hdT τ p m z) p then tu (hdT τ p m z) 4 (16 * p + k) (flp (hdT τ p m z 4 (16 * p + k))) 4 (16 * p + j) else -1)
            rw [tu_nk (by omega)]
            rfl
    · rw [cn_out c, if_pos (Or.inr (by rw [hj]; exact brG_out (u := hOf (hdT τ p m _) p) (by show ¬ (k % 4 < wd (hdT τ p m _) p ∧ k / 4 < hg (hdT τ p m _) p); rw [hd_wd, hd_hg]; exact c)))]
      exact ⟨i1, i2, i3⟩
theorem abs_sz (v : Int32) : (if 0 ≤ v then v else 0 - v) = szO v := by
  unfold szO
  by_cases h : v < 0
  · rw [if_neg (Int32.not_le.mpr h), if_pos h]; exact Int32.zero_sub v
  · rw [if_pos (Int32.not_lt.mp h), if_neg h]
end
theorem CW.pv {τ : TT} {α : AT} {M : Mem} {p : Nat} (h : CW τ α M) (hp : p < nP τ) : PV M (α 0 p) (nI p) (nI (wd τ p)) (nI (hg τ p)) (brG (hOf τ p)) (pap τ α p) := by
  have q := (h.pc p hp).2.2.2
  rw [(h.wp.2 p hp).1.2.2, (h.wp.2 p hp).2.2.2] at q
  exact q

def rmX11_likeness : Room := { frames := 4, cells := 0, slots := 0, locals := 85 }
set_option maxHeartbeats 4000000 in
set_option maxRecDepth 100000 in
theorem c_X11_likeness {M : Mem} {τ : TT} {α : AT} {p q : Nat} (hC : CW τ α M) (hp : p < nP τ) (hq : q < nP τ) : CR mX11_likeness rmX11_likeness [.ref (α 0 p), .ref (α 0 q)] M (some (.int (lkn τ p q))) := by
  refine am_of rfl rfl (ls := [some (.ref (α 0 p)), some (.ref (α 0 q))]) rfl ?_
  have hP := hC.pv hp
  have hQ := hC.pv hq
  have w1 := hC.wp.2 p hp
  have w2 := hC.wp.2 q hq
  have c1 := cn_mny hC.wp hp
  have c2 := cn_mny hC.wp hq
  refine aw_aload0 0 dX11_likeness_0 ?_
  refine cr_v1 1 dX11_likeness_1 (c_X3_mean (w := 0) (h := 0) hP (by omega) (by omega)) ckV_RX11_337 cd_X3_mean hP.1 vc3 rfl rfl (Nat.le_of_ble_eq_true rfl) ⟨⟨by decide, by decide⟩, by decide, by decide⟩ rfl ?_
  rw [sum_eq hC.wp hC.sq hp]
  refine aw_aload1 4 dX11_likeness_4 ?_
  refine cr_v1 5 dX11_likeness_5 (c_X3_mean (w := 0) (h := 0) hQ (by omega) (by omega)) ckV_RX11_337 cd_X3_mean hQ.1 vc3 rfl rfl (Nat.le_of_ble_eq_true rfl) ⟨⟨by decide, by decide⟩, by decide, by decide⟩ rfl ?_
  rw [sum_eq hC.wp hC.sq hq]
  refine aw_isub 8 dX11_likeness_8 ?_
  refine aw_abs 9 dX11_likeness_9 ckM_RX11_334 (Nat.le_of_ble_eq_true rfl) (by decide) (by decide) (Nat.zero_le _) (Nat.zero_le _) ?_
  refine aw_topi (abs_sz _) ?_
  refine aw_aload0 12 dX11_likeness_12 ?_
  refine cr_v1 13 dX11_likeness_13 (c_X3_least hP) ckV_RX11_340 cd_X3_least hP.1 vc3 rfl rfl (Nat.le_of_ble_eq_true rfl) ⟨⟨by decide, by decide⟩, by decide, by decide⟩ rfl ?_
  rw [clt_eq hC.wp hC.sq hp 16 (by decide) (by decide), c1]
  refine aw_aload1 16 dX11_likeness_16 ?_
  refine cr_v1 17 dX11_likeness_17 (c_X3_least hQ) ckV_RX11_340 cd_X3_least hQ.1 vc3 rfl rfl (Nat.le_of_ble_eq_true rfl) ⟨⟨by decide, by decide⟩, by decide, by decide⟩ rfl ?_
  rw [clt_eq hC.wp hC.sq hq 16 (by decide) (by decide), c2]
  refine aw_isub 20 dX11_likeness_20 ?_
  refine aw_abs 21 dX11_likeness_21 ckM_RX11_334 (Nat.le_of_ble_eq_true rfl) (by decide) (by decide) (Nat.zero_le _) (Nat.zero_le _) ?_
  refine aw_topi (abs_sz _) ?_
  refine aw_iadd 24 dX11_likeness_24 ?_
  refine aw_aload0 25 dX11_likeness_25 ?_
  refine cr_v1 26 dX11_likeness_26 (c_X3_greatest hP) ckV_RX11_343 cd_X3_greatest hP.1 vc3 rfl rfl (Nat.le_of_ble_eq_true rfl) ⟨⟨by decide, by decide⟩, by decide, by decide⟩ rfl ?_
  rw [cgt_eq hC.wp hC.sq hp 16 (by decide) (by decide), c1]
  refine aw_aload1 29 dX11_likeness_29 ?_
  refine cr_v1 30 dX11_likeness_30 (c_X3_greatest hQ) ckV_RX11_343 cd_X3_greatest hQ.1 vc3 rfl rfl (Nat.le_of_ble_eq_true rfl) ⟨⟨by decide, by decide⟩, by decide, by decide⟩ rfl ?_
  rw [cgt_eq hC.wp hC.sq hq 16 (by decide) (by decide), c2]
  refine aw_isub 33 dX11_likeness_33 ?_
  refine aw_abs 34 dX11_likeness_34 ckM_RX11_334 (Nat.le_of_ble_eq_true rfl) (by decide) (by decide) (Nat.zero_le _) (Nat.zero_le _) ?_
  refine aw_topi (abs_sz _) ?_
  refine aw_iadd 37 dX11_likeness_37 ?_
  refine aw_iret 38 dX11_likeness_38 rfl (Nat.zero_le _) (Nat.zero_le _) ?_
  exact ⟨rfl, rfl⟩

theorem cnt_s {τ : TT} {k : Nat} : cnt τ (k + 1) = cnt τ k + (if τ 16 k < 0 then 0 else 1) := rfl

def rmX11_countPapers : Room := { frames := 0, cells := 0, slots := 0, locals := 0 }
set_option maxHeartbeats 4000000 in
set_option maxRecDepth 100000 in
theorem c_X11_countPapers {M : Mem} {τ : TT} {α : AT}  (hC : CW τ α M) : CR mX11_countPapers rmX11_countPapers [.ref 2] M (some (.int (cnt τ (nP τ)))) := by
  refine am_of rfl rfl (ls := [some (.ref 2), none, none]) rfl ?_
  have hn12 := hC.wp.1.1
  refine aw_ic0 0 dX11_countPapers_0 ?_
  refine aw_istore1 1 dX11_countPapers_1 rfl ?_
  refine aw_ic0 2 dX11_countPapers_2 ?_
  refine aw_istore2 3 dX11_countPapers_3 rfl ?_
  have LP4 : ∀ (dd : Nat) (k : Nat), nP τ - k = dd → (k ≤ nP τ) → AW mX11_countPapers rmX11_countPapers (fun r' M' => r' = (some (.int (cnt τ (nP τ)))) ∧ M' = M) 4 [some (.ref 2), some (.int (cnt τ k)), some (.int (nI k))] [] M 0 0 := by
    intro dd
    induction dd using Nat.strongRecOn with
    | _ dd ih4 =>
      intro k hdd hk
      refine aw_iload2 4 dX11_countPapers_4 ?_
      refine aw_aload0 5 dX11_countPapers_5 ?_
      refine aw_get 6 dX11_countPapers_6 ckF_RX11_92_11 hC.xo.1 (hC.xo.2.2.2.2.2.2.2.2.2.1.trans (congrArg Value.int hC.wp.1.2)) ?_
      refine aw_icmp_geN 9 33 (k) (nP τ) dX11_countPapers_9 (by decide) rfl rfl (by omega) (by omega) (fun h9 => ?_) (fun h9 => ?_)
      · have he : k = nP τ := by omega
        rw [he]
        refine aw_iload1 33 dX11_countPapers_33 ?_
        refine aw_iret 34 dX11_countPapers_34 rfl (Nat.zero_le _) (Nat.zero_le _) ?_
        exact ⟨rfl, rfl⟩
      · refine aw_aload0 12 dX11_countPapers_12 ?_
        refine aw_get 13 dX11_countPapers_13 ckF_RX11_13_11 hC.xo.1 hC.xo.2.1 ?_
        refine aw_iload2 16 dX11_countPapers_16 ?_
        refine aw_aald 17 (k) dX11_countPapers_17 hC.ax.2.1 (by decide) (by decide) rfl (show k < 12 by omega) (by decide) (hC.pc k h9).2.2.1 ?_
        by_cases hno : τ 16 k < 0
        · rw [show cnt τ k = cnt τ (k + 1) by rw [cnt_s, if_pos hno]; exact (Int32.add_zero _).symm]
          refine aw_get 18 dX11_countPapers_18 ckF_RX11_147_3 (hC.pc k h9).2.2.2.1 ((hC.pc k h9).2.2.2.2.2.2.2.2.1.trans (if_pos hno)) ?_
          refine aw_ifnullN 21 27 dX11_countPapers_21 (by decide) ?_
          refine aw_iinc2 27 (nI (k + 1)) dX11_countPapers_27 (nI_1 _) rfl ?_
          refine aw_goto 30 4 dX11_countPapers_30 (by decide) ?_
          exact ih4 _ (by omega) (k + 1) rfl (by omega)
        · refine aw_get 18 dX11_countPapers_18 ckF_RX11_147_3 (hC.pc k h9).2.2.2.1 ((hC.pc k h9).2.2.2.2.2.2.2.2.1.trans (if_neg hno)) ?_
          refine aw_ifnull 21 dX11_countPapers_21 ?_
          refine aw_iinc1 24 (cnt τ (k + 1)) dX11_countPapers_24 (by rw [cnt_s, if_neg hno]; rfl) rfl ?_
          refine aw_iinc2 27 (nI (k + 1)) dX11_countPapers_27 (nI_1 _) rfl ?_
          refine aw_goto 30 4 dX11_countPapers_30 (by decide) ?_
          exact ih4 _ (by omega) (k + 1) rfl (by omega)
  exact LP4 _ 0 rfl (by omega)

