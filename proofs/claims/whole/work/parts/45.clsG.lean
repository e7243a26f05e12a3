/-! the class: sheets (gen/clsG.py) -/
section
variable {τ : TT} {α : AT} {M M' : Mem}
theorem tu0_cg {X : TT} {i : Nat} (h : X i = τ i) : tu X 0 0 0 i = tu τ 0 0 0 i := by
  funext b
  show (if i = 0 ∧ b = 0 then 0 else X i b) = (if i = 0 ∧ b = 0 then 0 else τ i b)
  rw [h]
theorem lack_bey {k : Nat} {i n : Int32} (hw : WS τ) (hk : k < 4) (h0 : ¬ τ 28 k < 0) (hn : ¬ n < 0) : (i < 0 ∨ nI (ssz τ k) - n < i) ↔ bey i n.toInt64 (τ 28 k) := by
  obtain ⟨s1, s2⟩ := hw.ok hk h0
  have cn2 : 0 ≤ n.toInt := by
    rw [Int32.lt_iff_toInt_lt, show (0 : Int32).toInt = 0 by decide] at hn
    omega
  have b1 := Int32.toInt_lt n
  have b2 := Int32.toInt_lt i
  have b3 := Int32.le_toInt i
  have e4 : (nI (ssz τ k) - n).toInt = (ssz τ k : Int) - n.toInt := by
    rw [i32s (by rw [nI_toInt (by omega)]; omega) (by rw [nI_toInt (by omega)]; omega), nI_toInt (by omega)]
  have e5 : (i.toInt64 + n.toInt64).toInt = i.toInt + n.toInt := by
    rw [i64a (by rw [Int32.toInt_toInt64, Int32.toInt_toInt64]; omega) (by rw [Int32.toInt_toInt64, Int32.toInt_toInt64]; omega), Int32.toInt_toInt64, Int32.toInt_toInt64]
  have e6 : (τ 28 k).toInt64.toInt = (ssz τ k : Int) := by rw [Int32.toInt_toInt64, s2, nI_toInt (by omega)]
  have e7 : n.toInt64 < 0 ↔ n.toInt < 0 := by rw [Int64.lt_iff_toInt_lt, Int32.toInt_toInt64]; rfl
  unfold bey
  rw [Int32.lt_iff_toInt_lt (x := nI (ssz τ k) - n), Int64.lt_iff_toInt_lt (x := (τ 28 k).toInt64), e4, e5, e6, e7]
  constructor
  · rintro (q | q)
    · exact Or.inl q
    · exact Or.inr (Or.inr (by omega))
  · rintro (q | q | q)
    · exact Or.inl q
    · omega
    · exact Or.inr (by omega)
theorem bey_n {i n s : Int32} (hn : n < 0) : bey i n.toInt64 s := Or.inr (Or.inl (by
  rw [Int64.lt_iff_toInt_lt, Int32.toInt_toInt64]
  rw [Int32.lt_iff_toInt_lt] at hn
  exact hn))
theorem CW.lost {k : Nat} (h : CW τ α M) (hk : k < 4) (h0 : τ 28 k < 0) : ∃ lane len c, SV M (17 + 2 * k) 0 lane len c := by
  obtain ⟨hr, lane, len, c, h1, h2, -⟩ := h.sh k hk
  rw [h2 h0] at h1
  exact ⟨lane, len, c, h1⟩
theorem ssz_n {k m : Nat} (h : τ 28 k = nI m) (hm : m ≤ 60) : ssz τ k = m := by unfold ssz; rw [h]; exact nI_clamp (by omega)
/-- a new row -/
theorem CW.ren {k m : Nat} {w : Int32} (h : CW (tu τ 0 0 0) α M) (hk : k < 4) (hm : m ≤ 60) (f : FrS (fun b => b = 17 + 2 * k ∨ b = 17 + 2 * k + 1) M M') (hV : SV M' (17 + 2 * k) 1 w (nI m) (fun _ => 0)) : CW (tSh τ k m w) α M' := by
  have a28 : tSh τ k m w 28 k = nI m := by show tu τ 28 k (nI m) 28 k = _; exact tu_at
  have a29 : tSh τ k m w 29 k = w := by show tu (tu τ 28 k (nI m)) 29 k w 29 k = _; exact tu_at
  have n28 : ∀ j, j ≠ k → tSh τ k m w 28 j = τ 28 j := fun j hj => by show tu τ 28 k (nI m) 28 j = _; exact tu_nk hj
  have n29 : ∀ j, j ≠ k → tSh τ k m w 29 j = τ 29 j := fun j hj => by show tu (tu τ 28 k (nI m)) 29 k w 29 j = _; exact tu_nk hj
  refine h.she (τ' := tSh τ k m w) f.kp hk (fun b q => q) ⟨1, w, nI m, fun _ => 0, hV, fun z => absurd z (by rw [a28]; exact nI_pos (by omega)), fun _ => ⟨rfl, a29.symm, a28.symm, fun j hj => ?_⟩⟩ (fun j hj hjk => ⟨n28 j hjk, n29 j hjk, fun i hi => ?_⟩) (fun j hj => ?_) (fun i h1 h2 h3 => tu0_cg (by rw [ov_ne h3, tu_ne h2, tu_ne h1]))
  · rw [ssz_n a28 hm] at hj
    show 0 = ov (tu (tu τ 28 k (nI m)) 29 k w) 30 (60 * k) (60 * k + m) (fun _ => 0) 30 (60 * k + j)
    rw [ov_in (by omega)]
  · show ov (tu (tu τ 28 k (nI m)) 29 k w) 30 (60 * k) (60 * k + m) (fun _ => 0) 30 (60 * j + i) = _
    rw [ov_out (by omega)]; rfl
  · by_cases e : j = k
    · subst e; exact Or.inr ⟨by rw [ssz_n a28 hm]; exact hm, by rw [ssz_n a28 hm]; exact a28⟩
    · have := h.ws j hj
      unfold ssz
      rw [n28 j e]
      exact this
theorem CW.los {k : Nat} (h : CW τ α M) (hk : k < 4) {lane len : Int32} {c : Nat → Int32} (f : Wf (17 + 2 * k) 1 (.int 0) M M') (hV : SV M (17 + 2 * k) 1 lane len c) : CW (tu τ 28 k (-1)) α M' := by
  have a28 : tu τ 28 k (-1) 28 k = -1 := tu_at
  refine h.she (τ' := tu τ 28 k (-1)) f.toWd.kp hk (fun b q => Or.inl q) ⟨0, lane, len, c, hV.row f, fun _ => rfl, fun z => absurd (by rw [a28]; decide) z⟩ (fun j hj hjk => ⟨tu_nk hjk, rfl, fun _ _ => rfl⟩) (fun j hj => ?_) (fun i h1 h2 h3 => tu_ne h1)
  by_cases e : j = k
  · subst e; exact Or.inl a28
  · have := h.ws j hj
    unfold ssz
    rw [tu_nk e]
    exact this
theorem CW.lo0 {k : Nat} (h : CW τ α M) (hk : k < 4) (h0 : τ 28 k < 0) : CW (tu τ 28 k (-1)) α M := by
  have e : τ 28 k = -1 := by
    rcases h.ws k hk with q | q
    · exact q
    · exact absurd h0 (by rw [q.2]; exact nI_pos (by omega))
  rw [← e, tu_same]
  exact h
/-- cells of a row written -/
theorem CW.wrc {k : Nat} {c c' g : Nat → Int32} (h : CW (tu τ 0 0 0) α M) (hk : k < 4) (h0 : ¬ τ 28 k < 0) (hV : SV M (17 + 2 * k) 1 (τ 29 k) (nI (ssz τ k)) c) (f : Wd (17 + 2 * k + 1) M M') (hA : AR M' (17 + 2 * k + 1) 60 c') (lo hi : Nat) (hlo : 60 * k ≤ lo) (hhi : hi ≤ 60 * k + 60) (hc : ∀ j, j < ssz τ k → c' j = ov τ 30 lo hi g 30 (60 * k + j)) : CW (tu (ov τ 30 lo hi g) 0 0 0) α M' := by
  obtain ⟨s1, s2⟩ := h.ws.ok hk h0
  refine h.she (τ' := tu (ov τ 30 lo hi g) 0 0 0) f.kp hk (fun b q => Or.inr q) ⟨1, τ 29 k, nI (ssz τ k), c', hV.cel f hA, fun z => absurd z h0, fun _ => ⟨rfl, rfl, s2.symm, hc⟩⟩ (fun j hj hjk => ⟨rfl, rfl, fun i hi6 => ?_⟩) h.ws (fun i h1 h2 h3 => tu0_cg (ov_ne h3))
  show ov τ 30 lo hi g 30 (60 * j + i) = _
  rw [ov_out (by omega)]; rfl
theorem tu_ov {i k : Nat} {v : Int32} : tu τ i k v = ov τ i k (k + 1) (fun _ => v) := by
  funext a b
  show (if a = i ∧ b = k then v else τ a b) = (if a = i ∧ k ≤ b ∧ b < k + 1 then v else τ a b)
  by_cases c : a = i ∧ b = k
  · rw [if_pos c, if_pos ⟨c.1, by omega, by omega⟩]
  · rw [if_neg c, if_neg (fun q => c ⟨q.1, by omega⟩)]
theorem bar_fCl {k : Nat} {i l : Int32} (hw : WS τ) (hk : k < 4) : bar τ k l i (1 : Int32).toInt64 = fCl τ k i l := by
  unfold bar fCl ncl
  by_cases c : 0 ≤ τ 28 k ∧ ¬ τ 29 k = l
  · rw [if_pos c, if_pos c]
  · rw [if_neg c, if_neg c]
    by_cases d : τ 28 k < 0
    · rw [if_pos d, if_pos d]
    · rw [if_neg d, if_neg d, if_neg (by decide)]
      have hl := lack_bey (i := i) (n := 1) hw hk d (by decide)
      obtain ⟨s1, s2⟩ := hw.ok hk d
      have hb : bey i (1 : Int32).toInt64 (τ 28 k) ↔ ¬ ir i (ssz τ k) := by
        rw [← hl, Int32.lt_iff_toInt_lt, Int32.lt_iff_toInt_lt, lm1 (by omega), show (0 : Int32).toInt = 0 by decide]
        unfold ir
        omega
      by_cases e : ir i (ssz τ k)
      · rw [if_pos e, if_neg (fun q => hb.mp q e)]
      · rw [if_neg e, if_pos (hb.mpr e)]
theorem fOf_ncl {k : Nat} {hr lane len i : Int32} (hw : WS τ) (hk : k < 4) (h1 : τ 28 k < 0 → hr = 0) (h2 : ¬ τ 28 k < 0 → hr = 1 ∧ lane = τ 29 k ∧ len = τ 28 k) : fOf hr lane len lane i 1 = ncl τ k i := by
  by_cases c : τ 28 k < 0
  · unfold fOf ncl; rw [if_pos (h1 c), if_pos c]
  · rw [fOf_bar hw hk h1 h2, bar_fCl hw hk]
    unfold fCl
    rw [if_neg (fun q => q.2 ((h2 c).2.1).symm)]
theorem ncl_nz {k : Nat} {i : Int32} (h : 0 < ncl τ k i) : ¬ ncl τ k i = 0 := fun q => by rw [q] at h; exact absurd h (by decide)
theorem fCl_nz {k : Nat} {i l : Int32} (h : 0 < fCl τ k i l) : ¬ fCl τ k i l = 0 := fun q => by rw [q] at h; exact absurd h (by decide)
end

def rmX11_sheet : Room := { frames := 2, cells := 0, slots := 0, locals := 45 }
set_option maxHeartbeats 4000000 in
set_option maxRecDepth 100000 in
theorem n_X11_sheet {M0 : Mem} {τ : TT} {α : AT} {v w u : Int32} (hC : CW τ α M0) (hno : ¬ irg v 0 3) : CK mX11_sheet rmX11_sheet [.int v, .int w, .int u] M0 (.int (-1)) (tu τ 0 0 0) := by
  refine am_of rfl rfl (ls := [some (.ref 2), some (.int v), some (.int w), some (.int u), none]) rfl ?_
  suffices HH : ∀ M, (CW τ α M) → (Kr M0 M) → AW mX11_sheet rmX11_sheet (fun r' M' => r' = (some (.int (-1))) ∧ (fun M2 => Kr M0 M2 ∧ ∃ α2, CW (tu τ 0 0 0) α2 M2) M') 0 [some (.ref 2), some (.int v), some (.int w), some (.int u), none] [] M 0 0 from HH M0 hC (Kr.rf _)
  intro M hC hR
  refine aw_aload0 0 dX11_sheet_0 ?_
  refine aw_ic0 1 dX11_sheet_1 ?_
  refine fp_put 2 dX11_sheet_2 ckF_RX11_64_11 ckP11_12 hC.xo.1 rfl rfl (fun M hd => ?_)
  replace hR := hR.trans (hd.toWd.kp.kr hC.m1 (fun b q => by omega))
  replace hC := hC.flt hd
  clear hd
  refine aw_aload0 5 dX11_sheet_5 ?_
  refine aw_iload1 6 dX11_sheet_6 ?_
  refine cr_v1 7 dX11_sheet_7 (n_X11_sheetAt hC hno) ckV_RX11_68 cd_X11_sheetAt hC.xo.1 vc11 rfl rfl (Nat.le_of_ble_eq_true rfl) ⟨⟨by decide, by decide⟩, by decide, by decide⟩ rfl ?_
  refine aw_astoreN4 10 dX11_sheet_10 rfl ?_
  refine aw_aloadN4 12 dX11_sheet_12 ?_
  refine aw_ifnonnullN 14 dX11_sheet_14 ?_
  refine aw_icm1 17 dX11_sheet_17 ?_
  refine aw_iret 18 dX11_sheet_18 rfl (Nat.zero_le _) (Nat.zero_le _) ?_
  exact ⟨rfl, hR, α, hC⟩

set_option maxHeartbeats 4000000 in
set_option maxRecDepth 100000 in
theorem n2_X11_sheet {M0 : Mem} {τ : TT} {α : AT} {k : Nat} {w u : Int32} (hC : CW τ α M0) (hk : k < 4) (hno : ¬ irg w 0 2 ∨ 60 < u) : CK mX11_sheet rmX11_sheet [.int (nI k), .int w, .int u] M0 (.int (-2)) (tu τ 0 0 0) := by
  refine am_of rfl rfl (ls := [some (.ref 2), some (.int (nI k)), some (.int w), some (.int u), none]) rfl ?_
  suffices HH : ∀ M, (CW τ α M) → (Kr M0 M) → AW mX11_sheet rmX11_sheet (fun r' M' => r' = (some (.int (-2))) ∧ (fun M2 => Kr M0 M2 ∧ ∃ α2, CW (tu τ 0 0 0) α2 M2) M') 0 [some (.ref 2), some (.int (nI k)), some (.int w), some (.int u), none] [] M 0 0 from HH M0 hC (Kr.rf _)
  intro M hC hR
  refine aw_aload0 0 dX11_sheet_0 ?_
  refine aw_ic0 1 dX11_sheet_1 ?_
  refine fp_put 2 dX11_sheet_2 ckF_RX11_64_11 ckP11_12 hC.xo.1 rfl rfl (fun M hd => ?_)
  replace hR := hR.trans (hd.toWd.kp.kr hC.m1 (fun b q => by omega))
  replace hC := hC.flt hd
  clear hd
  refine aw_aload0 5 dX11_sheet_5 ?_
  refine aw_iload1 6 dX11_sheet_6 ?_
  refine cr_v1 7 dX11_sheet_7 (c_X11_sheetAt hC hk) ckV_RX11_68 cd_X11_sheetAt hC.xo.1 vc11 rfl rfl (Nat.le_of_ble_eq_true rfl) ⟨⟨by decide, by decide⟩, by decide, by decide⟩ rfl ?_
  refine aw_astore4 10 dX11_sheet_10 rfl ?_
  refine aw_aload4 12 dX11_sheet_12 ?_
  refine aw_ifnonnull 14 19 dX11_sheet_14 (by decide) ?_
  refine aw_iload2 19 dX11_sheet_19 ?_
  refine cr_s1 20 dX11_sheet_20 (cr_sd c_X11_isLane) ckS_RX11_76 cd_X11_isLane rfl (Nat.le_of_ble_eq_true rfl) ⟨⟨by decide, by decide⟩, by decide, by decide⟩ rfl ?_
  refine aw_ifeq_b 23 32 dX11_sheet_23 (by decide) (fun h23 => ?_) (fun h23 => ?_)
  · refine aw_bipush 32 (-2) dX11_sheet_32 (by decide) ?_
    refine aw_iret 34 dX11_sheet_34 rfl (Nat.zero_le _) (Nat.zero_le _) ?_
    exact ⟨rfl, hR, α, hC⟩
  · refine aw_iload3 26 dX11_sheet_26 ?_
    refine aw_bipush 27 60 dX11_sheet_27 (by decide) ?_
    refine aw_icmp_le 29 35 dX11_sheet_29 (by decide) (fun h29 => ?_) (fun h29 => ?_)
    · exact (hno.elim (fun q => q h23) (fun q => Int32.not_lt.mpr h29 q)).elim
    · refine aw_bipush 32 (-2) dX11_sheet_32 (by decide) ?_
      refine aw_iret 34 dX11_sheet_34 rfl (Nat.zero_le _) (Nat.zero_le _) ?_
      exact ⟨rfl, hR, α, hC⟩

set_option maxHeartbeats 4000000 in
set_option maxRecDepth 100000 in
theorem n3_X11_sheet {M0 : Mem} {τ : TT} {α : AT} {k : Nat} {w u : Int32} (hC : CW τ α M0) (hk : k < 4) (hw : irg w 0 2) (hu : u < 0) : CK mX11_sheet rmX11_sheet [.int (nI k), .int w, .int u] M0 (.int (-14)) (tu τ 0 0 4) := by
  refine am_of rfl rfl (ls := [some (.ref 2), some (.int (nI k)), some (.int w), some (.int u), none]) rfl ?_
  suffices HH : ∀ M, (CW τ α M) → (Kr M0 M) → AW mX11_sheet rmX11_sheet (fun r' M' => r' = (some (.int (-14))) ∧ (fun M2 => Kr M0 M2 ∧ ∃ α2, CW (tu τ 0 0 4) α2 M2) M') 0 [some (.ref 2), some (.int (nI k)), some (.int w), some (.int u), none] [] M 0 0 from HH M0 hC (Kr.rf _)
  intro M hC hR
  refine aw_aload0 0 dX11_sheet_0 ?_
  refine aw_ic0 1 dX11_sheet_1 ?_
  refine fp_put 2 dX11_sheet_2 ckF_RX11_64_11 ckP11_12 hC.xo.1 rfl rfl (fun M hd => ?_)
  replace hR := hR.trans (hd.toWd.kp.kr hC.m1 (fun b q => by omega))
  replace hC := hC.flt hd
  clear hd
  refine aw_aload0 5 dX11_sheet_5 ?_
  refine aw_iload1 6 dX11_sheet_6 ?_
  refine cr_v1 7 dX11_sheet_7 (c_X11_sheetAt hC hk) ckV_RX11_68 cd_X11_sheetAt hC.xo.1 vc11 rfl rfl (Nat.le_of_ble_eq_true rfl) ⟨⟨by decide, by decide⟩, by decide, by decide⟩ rfl ?_
  refine aw_astore4 10 dX11_sheet_10 rfl ?_
  refine aw_aload4 12 dX11_sheet_12 ?_
  refine aw_ifnonnull 14 19 dX11_sheet_14 (by decide) ?_
  refine aw_iload2 19 dX11_sheet_19 ?_
  refine cr_s1 20 dX11_sheet_20 (cr_sd c_X11_isLane) ckS_RX11_76 cd_X11_isLane rfl (Nat.le_of_ble_eq_true rfl) ⟨⟨by decide, by decide⟩, by decide, by decide⟩ rfl ?_
  refine aw_ifeq_b 23 32 dX11_sheet_23 (by decide) (fun h23 => ?_) (fun h23 => ?_)
  · exact absurd hw h23
  · refine aw_iload3 26 dX11_sheet_26 ?_
    refine aw_bipush 27 60 dX11_sheet_27 (by decide) ?_
    refine aw_icmp_le 29 35 dX11_sheet_29 (by decide) (fun h29 => ?_) (fun h29 => ?_)
    · refine aw_iload3 35 dX11_sheet_35 ?_
      refine aw_if_ge 36 45 dX11_sheet_36 (by decide) (fun h36 => ?_) (fun h36 => ?_)
      · exact absurd hu (Int32.not_lt.mpr h36)
      · refine aw_aload0 39 dX11_sheet_39 ?_
        refine aw_ic4 40 dX11_sheet_40 ?_
        refine ap_v1 41 dX11_sheet_41 (c_X11_failed hC) ckV_RX11_84 cd_X11_failed hC.xo.1 vc11 rfl rfl (Nat.le_of_ble_eq_true rfl) ⟨⟨by decide, by decide⟩, by decide, by decide⟩ rfl (fun M hd => ?_)
        replace hR := hR.trans (hd.toWd.kp.kr hC.m1 (fun b q => by omega))
        replace hC := hC.flt hd
        rw [tu_ch] at hC
        refine aw_iret 44 dX11_sheet_44 rfl (Nat.zero_le _) (Nat.zero_le _) ?_
        exact ⟨by first | rfl | decide, hR, α, hC⟩
    · exact absurd (Int32.le_of_lt (Int32.lt_trans hu (by decide))) h29

set_option maxHeartbeats 4000000 in
set_option maxRecDepth 100000 in
theorem c_X11_sheet {M0 : Mem} {τ : TT} {α : AT} {k m : Nat} {w : Int32} (hC : CW τ α M0) (hk : k < 4) (hw : irg w 0 2) (hm : m ≤ 60) : CK mX11_sheet rmX11_sheet [.int (nI k), .int w, .int (nI m)] M0 (.int 1) (tSh τ k m w) := by
  refine am_of rfl rfl (ls := [some (.ref 2), some (.int (nI k)), some (.int w), some (.int (nI m)), none]) rfl ?_
  suffices HH : ∀ M, (CW τ α M) → (Kr M0 M) → AW mX11_sheet rmX11_sheet (fun r' M' => r' = (some (.int 1)) ∧ (fun M2 => Kr M0 M2 ∧ ∃ α2, CW (tSh τ k m w) α2 M2) M') 0 [some (.ref 2), some (.int (nI k)), some (.int w), some (.int (nI m)), none] [] M 0 0 from HH M0 hC (Kr.rf _)
  intro M hC hR
  refine aw_aload0 0 dX11_sheet_0 ?_
  refine aw_ic0 1 dX11_sheet_1 ?_
  refine fp_put 2 dX11_sheet_2 ckF_RX11_64_11 ckP11_12 hC.xo.1 rfl rfl (fun M hd => ?_)
  replace hR := hR.trans (hd.toWd.kp.kr hC.m1 (fun b q => by omega))
  replace hC := hC.flt hd
  clear hd
  refine aw_aload0 5 dX11_sheet_5 ?_
  refine aw_iload1 6 dX11_sheet_6 ?_
  refine cr_v1 7 dX11_sheet_7 (c_X11_sheetAt hC hk) ckV_RX11_68 cd_X11_sheetAt hC.xo.1 vc11 rfl rfl (Nat.le_of_ble_eq_true rfl) ⟨⟨by decide, by decide⟩, by decide, by decide⟩ rfl ?_
  refine aw_astore4 10 dX11_sheet_10 rfl ?_
  refine aw_aload4 12 dX11_sheet_12 ?_
  refine aw_ifnonnull 14 19 dX11_sheet_14 (by decide) ?_
  refine aw_iload2 19 dX11_sheet_19 ?_
  refine cr_s1 20 dX11_sheet_20 (cr_sd c_X11_isLane) ckS_RX11_76 cd_X11_isLane rfl (Nat.le_of_ble_eq_true rfl) ⟨⟨by decide, by decide⟩, by decide, by decide⟩ rfl ?_
  refine aw_ifeq_b 23 32 dX11_sheet_23 (by decide) (fun h23 => ?_) (fun h23 => ?_)
  · exact absurd hw h23
  · refine aw_iload3 26 dX11_sheet_26 ?_
    refine aw_bipush 27 60 dX11_sheet_27 (by decide) ?_
    refine aw_icmp_leN 29 35 (m) (60) dX11_sheet_29 (by decide) rfl rfl (by omega) (by omega) (fun h29 => ?_) (fun h29 => ?_)
    · refine aw_iload3 35 dX11_sheet_35 ?_
      refine aw_if_geN 36 45 (m) dX11_sheet_36 (by decide) rfl (by omega) ?_
      obtain ⟨hr0, lane0, len0, c0, hV, -, -⟩ := hC.sh k hk
      refine aw_aload4 45 dX11_sheet_45 ?_
      refine aw_iload2 47 dX11_sheet_47 ?_
      refine aw_iload3 48 dX11_sheet_48 ?_
      refine ap_v0 49 dX11_sheet_49 (c_X5_renew hV (by omega)) ckV_RX11_286 cd_X5_renew hV.1 vc5 rfl rfl (Nat.le_of_ble_eq_true rfl) ⟨⟨by decide, by decide⟩, by decide, by decide⟩ rfl (fun M hq => ?_)
      replace hR := hR.trans (hq.1.kp.kr hC.m1 (fun b q => by omega))
      replace hC := hC.ren hk hm hq.1 hq.2
      refine aw_ic1 52 dX11_sheet_52 ?_
      refine aw_iret 53 dX11_sheet_53 rfl (Nat.zero_le _) (Nat.zero_le _) ?_
      exact ⟨rfl, hR, α, hC⟩
    · exact absurd h29 (by omega)

def rmX11_lose : Room := { frames := 2, cells := 0, slots := 0, locals := 43 }
set_option maxHeartbeats 4000000 in
set_option maxRecDepth 100000 in
theorem n_X11_lose {M0 : Mem} {τ : TT} {α : AT} {v : Int32} (hC : CW τ α M0) (hno : ¬ irg v 0 3) : CK mX11_lose rmX11_lose [.int v] M0 (.int (-1)) (τ) := by
  refine am_of rfl rfl (ls := [some (.ref 2), some (.int v), none]) rfl ?_
  suffices HH : ∀ M, (CW τ α M) → (Kr M0 M) → AW mX11_lose rmX11_lose (fun r' M' => r' = (some (.int (-1))) ∧ (fun M2 => Kr M0 M2 ∧ ∃ α2, CW (τ) α2 M2) M') 0 [some (.ref 2), some (.int v), none] [] M 0 0 from HH M0 hC (Kr.rf _)
  intro M hC hR
  refine aw_aload0 0 dX11_lose_0 ?_
  refine aw_iload1 1 dX11_lose_1 ?_
  refine cr_v1 2 dX11_lose_2 (n_X11_sheetAt hC hno) ckV_RX11_68 cd_X11_sheetAt hC.xo.1 vc11 rfl rfl (Nat.le_of_ble_eq_true rfl) ⟨⟨by decide, by decide⟩, by decide, by decide⟩ rfl ?_
  refine aw_astoreN2 5 dX11_lose_5 rfl ?_
  refine aw_aloadN2 6 dX11_lose_6 ?_
  refine aw_ifnonnullN 7 dX11_lose_7 ?_
  refine aw_icm1 10 dX11_lose_10 ?_
  refine aw_iret 11 dX11_lose_11 rfl (Nat.zero_le _) (Nat.zero_le _) ?_
  exact ⟨rfl, hR, α, hC⟩

set_option maxHeartbeats 4000000 in
set_option maxRecDepth 100000 in
theorem n2_X11_lose {M0 : Mem} {τ : TT} {α : AT} {k : Nat} (hC : CW τ α M0) (hk : k < 4) (h0 : τ 28 k < 0) : CK mX11_lose rmX11_lose [.int (nI k)] M0 (.int 0) (tu τ 28 k (-1)) := by
  refine am_of rfl rfl (ls := [some (.ref 2), some (.int (nI k)), none]) rfl ?_
  suffices HH : ∀ M, (CW τ α M) → (Kr M0 M) → AW mX11_lose rmX11_lose (fun r' M' => r' = (some (.int 0)) ∧ (fun M2 => Kr M0 M2 ∧ ∃ α2, CW (tu τ 28 k (-1)) α2 M2) M') 0 [some (.ref 2), some (.int (nI k)), none] [] M 0 0 from HH M0 hC (Kr.rf _)
  intro M hC hR
  obtain ⟨lane0, len0, c0, hV⟩ := hC.lost hk h0
  refine aw_aload0 0 dX11_lose_0 ?_
  refine aw_iload1 1 dX11_lose_1 ?_
  refine cr_v1 2 dX11_lose_2 (c_X11_sheetAt hC hk) ckV_RX11_68 cd_X11_sheetAt hC.xo.1 vc11 rfl rfl (Nat.le_of_ble_eq_true rfl) ⟨⟨by decide, by decide⟩, by decide, by decide⟩ rfl ?_
  refine aw_astore2 5 dX11_lose_5 rfl ?_
  refine aw_aload2 6 dX11_lose_6 ?_
  refine aw_ifnonnull 7 12 dX11_lose_7 (by decide) ?_
  refine aw_aload2 12 dX11_lose_12 ?_
  refine aw_get 13 dX11_lose_13 ckF_RX11_289_5 hV.1 hV.2.2.1 ?_
  refine aw_if_neN 16 21 (0) dX11_lose_16 (by decide) rfl (by decide) (fun h => absurd h (by decide)) (fun _ => ?_)
  refine aw_ic0 19 dX11_lose_19 ?_
  refine aw_iret 20 dX11_lose_20 rfl (Nat.zero_le _) (Nat.zero_le _) ?_
  exact ⟨rfl, hR, α, hC.lo0 hk h0⟩

set_option maxHeartbeats 4000000 in
set_option maxRecDepth 100000 in
theorem c_X11_lose {M0 : Mem} {τ : TT} {α : AT} {k : Nat} (hC : CW τ α M0) (hk : k < 4) (h0 : ¬ τ 28 k < 0) : CK mX11_lose rmX11_lose [.int (nI k)] M0 (.int 1) (tu τ 28 k (-1)) := by
  refine am_of rfl rfl (ls := [some (.ref 2), some (.int (nI k)), none]) rfl ?_
  suffices HH : ∀ M, (CW τ α M) → (Kr M0 M) → AW mX11_lose rmX11_lose (fun r' M' => r' = (some (.int 1)) ∧ (fun M2 => Kr M0 M2 ∧ ∃ α2, CW (tu τ 28 k (-1)) α2 M2) M') 0 [some (.ref 2), some (.int (nI k)), none] [] M 0 0 from HH M0 hC (Kr.rf _)
  intro M hC hR
  obtain ⟨c0, hV, h60, hc0⟩ := hC.row hk h0
  refine aw_aload0 0 dX11_lose_0 ?_
  refine aw_iload1 1 dX11_lose_1 ?_
  refine cr_v1 2 dX11_lose_2 (c_X11_sheetAt hC hk) ckV_RX11_68 cd_X11_sheetAt hC.xo.1 vc11 rfl rfl (Nat.le_of_ble_eq_true rfl) ⟨⟨by decide, by decide⟩, by decide, by decide⟩ rfl ?_
  refine aw_astore2 5 dX11_lose_5 rfl ?_
  refine aw_aload2 6 dX11_lose_6 ?_
  refine aw_ifnonnull 7 12 dX11_lose_7 (by decide) ?_
  refine aw_aload2 12 dX11_lose_12 ?_
  refine aw_get 13 dX11_lose_13 ckF_RX11_289_5 hV.1 hV.2.2.1 ?_
  refine aw_if_neN 16 21 (1) dX11_lose_16 (by decide) rfl (by decide) (fun _ => ?_) (fun h => absurd h (by decide))
  refine aw_aload2 21 dX11_lose_21 ?_
  refine aw_ic0 22 dX11_lose_22 ?_
  refine fp_put 23 dX11_lose_23 ckF_RX11_289_5 ckP5_1 hV.1 rfl rfl (fun M hd => ?_)
  replace hR := hR.trans (hd.toWd.kp.kr hC.m1 (fun b q => by omega))
  replace hC := hC.los hk hd hV
  refine aw_ic1 26 dX11_lose_26 ?_
  refine aw_iret 27 dX11_lose_27 rfl (Nat.zero_le _) (Nat.zero_le _) ?_
  exact ⟨rfl, hR, α, hC⟩

def rmX11_put : Room := { frames := 2, cells := 0, slots := 0, locals := 45 }
set_option maxHeartbeats 4000000 in
set_option maxRecDepth 100000 in
theorem n_X11_put {M0 : Mem} {τ : TT} {α : AT} {v w u : Int32} (hC : CW τ α M0) (hno : ¬ irg v 0 3) : CK mX11_put rmX11_put [.int v, .int w, .int u] M0 (.int (-1)) (tu τ 0 0 0) := by
  refine am_of rfl rfl (ls := [some (.ref 2), some (.int v), some (.int w), some (.int u), none, none]) rfl ?_
  suffices HH : ∀ M, (CW τ α M) → (Kr M0 M) → AW mX11_put rmX11_put (fun r' M' => r' = (some (.int (-1))) ∧ (fun M2 => Kr M0 M2 ∧ ∃ α2, CW (tu τ 0 0 0) α2 M2) M') 0 [some (.ref 2), some (.int v), some (.int w), some (.int u), none, none] [] M 0 0 from HH M0 hC (Kr.rf _)
  intro M hC hR
  refine aw_aload0 0 dX11_put_0 ?_
  refine aw_ic0 1 dX11_put_1 ?_
  refine fp_put 2 dX11_put_2 ckF_RX11_64_11 ckP11_12 hC.xo.1 rfl rfl (fun M hd => ?_)
  replace hR := hR.trans (hd.toWd.kp.kr hC.m1 (fun b q => by omega))
  replace hC := hC.flt hd
  clear hd
  refine aw_aload0 5 dX11_put_5 ?_
  refine aw_iload1 6 dX11_put_6 ?_
  refine cr_v1 7 dX11_put_7 (n_X11_sheetAt hC hno) ckV_RX11_68 cd_X11_sheetAt hC.xo.1 vc11 rfl rfl (Nat.le_of_ble_eq_true rfl) ⟨⟨by decide, by decide⟩, by decide, by decide⟩ rfl ?_
  refine aw_astoreN4 10 dX11_put_10 rfl ?_
  refine aw_aloadN4 12 dX11_put_12 ?_
  refine aw_ifnonnullN 14 dX11_put_14 ?_
  refine aw_icm1 17 dX11_put_17 ?_
  refine aw_iret 18 dX11_put_18 rfl (Nat.zero_le _) (Nat.zero_le _) ?_
  exact ⟨rfl, hR, α, hC⟩

set_option maxHeartbeats 4000000 in
set_option maxRecDepth 100000 in
theorem n2_X11_put {M0 : Mem} {τ : TT} {α : AT} {k : Nat} {i v : Int32} (hC : CW τ α M0) (hk : k < 4) (hc : 0 < ncl τ k i) : CK mX11_put rmX11_put [.int (nI k), .int i, .int v] M0 (.int (-10 - ncl τ k i)) (tu τ 0 0 (ncl τ k i)) := by
  refine am_of rfl rfl (ls := [some (.ref 2), some (.int (nI k)), some (.int i), some (.int v), none, none]) rfl ?_
  suffices HH : ∀ M, (CW τ α M) → (Kr M0 M) → AW mX11_put rmX11_put (fun r' M' => r' = (some (.int (-10 - ncl τ k i))) ∧ (fun M2 => Kr M0 M2 ∧ ∃ α2, CW (tu τ 0 0 (ncl τ k i)) α2 M2) M') 0 [some (.ref 2), some (.int (nI k)), some (.int i), some (.int v), none, none] [] M 0 0 from HH M0 hC (Kr.rf _)
  intro M hC hR
  refine aw_aload0 0 dX11_put_0 ?_
  refine aw_ic0 1 dX11_put_1 ?_
  refine fp_put 2 dX11_put_2 ckF_RX11_64_11 ckP11_12 hC.xo.1 rfl rfl (fun M hd => ?_)
  replace hR := hR.trans (hd.toWd.kp.kr hC.m1 (fun b q => by omega))
  replace hC := hC.flt hd
  clear hd
  refine aw_aload0 5 dX11_put_5 ?_
  refine aw_iload1 6 dX11_put_6 ?_
  refine cr_v1 7 dX11_put_7 (c_X11_sheetAt hC hk) ckV_RX11_68 cd_X11_sheetAt hC.xo.1 vc11 rfl rfl (Nat.le_of_ble_eq_true rfl) ⟨⟨by decide, by decide⟩, by decide, by decide⟩ rfl ?_
  refine aw_astore4 10 dX11_put_10 rfl ?_
  refine aw_aload4 12 dX11_put_12 ?_
  refine aw_ifnonnull 14 19 dX11_put_14 (by decide) ?_
  obtain ⟨hr0, lane0, len0, c0, hV, hv1, hv2⟩ := hC.sh k hk
  have hfn := fOf_ncl (i := i) hC.ws hk hv1 (fun q => ⟨(hv2 q).1, (hv2 q).2.1, (hv2 q).2.2.1⟩)
  refine aw_aload4 19 dX11_put_19 ?_
  refine aw_aload4 21 dX11_put_21 ?_
  refine aw_get 23 dX11_put_23 ckF_RX11_293_5 hV.1 hV.2.2.2.1 ?_
  refine aw_iload2 26 dX11_put_26 ?_
  refine aw_ic1 27 dX11_put_27 ?_
  refine cr_v1 28 dX11_put_28 (c_X5_faultOf hV) ckV_RX11_80 cd_X5_faultOf hV.1 vc5 rfl rfl (Nat.le_of_ble_eq_true rfl) ⟨⟨by decide, by decide⟩, by decide, by decide⟩ rfl ?_
  refine aw_topi (w := ncl τ k i) hfn ?_
  refine aw_istore5 31 dX11_put_31 rfl ?_
  refine aw_iload5 33 dX11_put_33 ?_
  refine aw_if_eq 35 45 dX11_put_35 (by decide) (fun h35 => ?_) (fun h35 => ?_)
  · exact absurd h35 (ncl_nz hc)
  · refine aw_aload0 38 dX11_put_38 ?_
    refine aw_iload5 39 dX11_put_39 ?_
    refine ap_v1 41 dX11_put_41 (c_X11_failed hC) ckV_RX11_84 cd_X11_failed hC.xo.1 vc11 rfl rfl (Nat.le_of_ble_eq_true rfl) ⟨⟨by decide, by decide⟩, by decide, by decide⟩ rfl (fun M hd => ?_)
    replace hR := hR.trans (hd.toWd.kp.kr hC.m1 (fun b q => by omega))
    replace hC := hC.flt hd
    rw [tu_ch] at hC
    refine aw_iret 44 dX11_put_44 rfl (Nat.zero_le _) (Nat.zero_le _) ?_
    exact ⟨rfl, hR, α, hC⟩

set_option maxHeartbeats 4000000 in
set_option maxRecDepth 100000 in
theorem c_X11_put {M0 : Mem} {τ : TT} {α : AT} {k j : Nat} {v : Int32} (hC : CW τ α M0) (hk : k < 4) (h0 : ¬ τ 28 k < 0) (hj : j < ssz τ k) : CK mX11_put rmX11_put [.int (nI k), .int (nI j), .int v] M0 (.int 1) (tu (tu τ 30 (60 * k + j) (nrw (τ 29 k) v)) 0 0 0) := by
  refine am_of rfl rfl (ls := [some (.ref 2), some (.int (nI k)), some (.int (nI j)), some (.int v), none, none]) rfl ?_
  suffices HH : ∀ M, (CW τ α M) → (Kr M0 M) → AW mX11_put rmX11_put (fun r' M' => r' = (some (.int 1)) ∧ (fun M2 => Kr M0 M2 ∧ ∃ α2, CW (tu (tu τ 30 (60 * k + j) (nrw (τ 29 k) v)) 0 0 0) α2 M2) M') 0 [some (.ref 2), some (.int (nI k)), some (.int (nI j)), some (.int v), none, none] [] M 0 0 from HH M0 hC (Kr.rf _)
  intro M hC hR
  refine aw_aload0 0 dX11_put_0 ?_
  refine aw_ic0 1 dX11_put_1 ?_
  refine fp_put 2 dX11_put_2 ckF_RX11_64_11 ckP11_12 hC.xo.1 rfl rfl (fun M hd => ?_)
  replace hR := hR.trans (hd.toWd.kp.kr hC.m1 (fun b q => by omega))
  replace hC := hC.flt hd
  clear hd
  refine aw_aload0 5 dX11_put_5 ?_
  refine aw_iload1 6 dX11_put_6 ?_
  refine cr_v1 7 dX11_put_7 (c_X11_sheetAt hC hk) ckV_RX11_68 cd_X11_sheetAt hC.xo.1 vc11 rfl rfl (Nat.le_of_ble_eq_true rfl) ⟨⟨by decide, by decide⟩, by decide, by decide⟩ rfl ?_
  refine aw_astore4 10 dX11_put_10 rfl ?_
  refine aw_aload4 12 dX11_put_12 ?_
  refine aw_ifnonnull 14 19 dX11_put_14 (by decide) ?_
  obtain ⟨c0, hV, h60, hc0⟩ := hC.row hk h0
  have hfn : fOf 1 (τ 29 k) (nI (ssz τ k)) (τ 29 k) (nI j) 1 = 0 := by
    have hws : WS τ := hC.ws
    rw [fOf_ncl (τ := τ) (k := k) hws hk (fun q => absurd q h0) (fun _ => ⟨rfl, rfl, (hws.ok hk h0).2.symm⟩)]
    exact ncl_0 hws hk h0 hj
  refine aw_aload4 19 dX11_put_19 ?_
  refine aw_aload4 21 dX11_put_21 ?_
  refine aw_get 23 dX11_put_23 ckF_RX11_293_5 hV.1 hV.2.2.2.1 ?_
  refine aw_iload2 26 dX11_put_26 ?_
  refine aw_ic1 27 dX11_put_27 ?_
  refine cr_v1 28 dX11_put_28 (c_X5_faultOf hV) ckV_RX11_80 cd_X5_faultOf hV.1 vc5 rfl rfl (Nat.le_of_ble_eq_true rfl) ⟨⟨by decide, by decide⟩, by decide, by decide⟩ rfl ?_
  refine aw_topi (w := 0) hfn ?_
  refine aw_istore5 31 dX11_put_31 rfl ?_
  refine aw_iload5 33 dX11_put_33 ?_
  refine aw_if_eqN 35 45 (0) dX11_put_35 (by decide) rfl (by decide) (fun _ => ?_) (fun h => absurd h (by decide))
  refine aw_aload4 45 dX11_put_45 ?_
  refine aw_iload2 47 dX11_put_47 ?_
  refine aw_iload3 48 dX11_put_48 ?_
  refine ap_v0 49 dX11_put_49 (c_X5_write hV h60 hj (by omega)) ckV_RX11_296 cd_X5_write hV.1 vc5 rfl rfl (Nat.le_of_ble_eq_true rfl) ⟨⟨by decide, by decide⟩, by decide, by decide⟩ rfl (fun M hq => ?_)
  replace hR := hR.trans (hq.1.kp.kr hC.m1 (fun b q => by omega))
  replace hC := hC.wrc (g := fun _ => nrw (τ 29 k) v) hk h0 hV hq.1 hq.2 (60 * k + j) (60 * k + j + 1) (by omega) (by have : ssz τ k ≤ 60 := h60; omega) (fun b hb => by
    by_cases e : b = j
    · subst e; rw [upg_at, ov_in (by omega)]; rfl
    · rw [upg_ne e, ov_out (by omega)]; exact hc0 b hb)
  refine aw_ic1 52 dX11_put_52 ?_
  refine aw_iret 53 dX11_put_53 rfl (Nat.zero_le _) (Nat.zero_le _) ?_
  refine ⟨rfl, hR, α, ?_⟩
  rw [tu_ov (i := 30)]
  exact hC

def rmX11_cell : Room := { frames := 2, cells := 0, slots := 0, locals := 45 }
set_option maxHeartbeats 4000000 in
set_option maxRecDepth 100000 in
theorem n_X11_cell {M0 : Mem} {τ : TT} {α : AT} {v w u : Int32} (hC : CW τ α M0) (hno : ¬ irg v 0 3) : CK mX11_cell rmX11_cell [.int v, .int w, .int u] M0 (.long (-9223372036854775808)) (tu τ 0 0 0) := by
  refine am_of rfl rfl (ls := [some (.ref 2), some (.int v), some (.int w), some (.int u), none, none]) rfl ?_
  suffices HH : ∀ M, (CW τ α M) → (Kr M0 M) → AW mX11_cell rmX11_cell (fun r' M' => r' = (some (.long (-9223372036854775808))) ∧ (fun M2 => Kr M0 M2 ∧ ∃ α2, CW (tu τ 0 0 0) α2 M2) M') 0 [some (.ref 2), some (.int v), some (.int w), some (.int u), none, none] [] M 0 0 from HH M0 hC (Kr.rf _)
  intro M hC hR
  refine aw_aload0 0 dX11_cell_0 ?_
  refine aw_ic0 1 dX11_cell_1 ?_
  refine fp_put 2 dX11_cell_2 ckF_RX11_64_11 ckP11_12 hC.xo.1 rfl rfl (fun M hd => ?_)
  replace hR := hR.trans (hd.toWd.kp.kr hC.m1 (fun b q => by omega))
  replace hC := hC.flt hd
  clear hd
  refine aw_aload0 5 dX11_cell_5 ?_
  refine aw_iload1 6 dX11_cell_6 ?_
  refine cr_v1 7 dX11_cell_7 (n_X11_sheetAt hC hno) ckV_RX11_68 cd_X11_sheetAt hC.xo.1 vc11 rfl rfl (Nat.le_of_ble_eq_true rfl) ⟨⟨by decide, by decide⟩, by decide, by decide⟩ rfl ?_
  refine aw_astoreN4 10 dX11_cell_10 rfl ?_
  refine aw_aloadN4 12 dX11_cell_12 ?_
  refine aw_ifnullN 14 24 dX11_cell_14 (by decide) ?_
  refine aw_ldc2 24 (-9223372036854775808) dX11_cell_24 ckL_RX11_251 ?_
  refine aw_lret 27 dX11_cell_27 rfl (Nat.zero_le _) (Nat.zero_le _) ?_
  exact ⟨rfl, hR, α, hC⟩

set_option maxHeartbeats 4000000 in
set_option maxRecDepth 100000 in
theorem n2_X11_cell {M0 : Mem} {τ : TT} {α : AT} {k : Nat} {w u : Int32} (hC : CW τ α M0) (hk : k < 4) (hno : ¬ irg u 0 2) : CK mX11_cell rmX11_cell [.int (nI k), .int w, .int u] M0 (.long (-9223372036854775808)) (tu τ 0 0 0) := by
  refine am_of rfl rfl (ls := [some (.ref 2), some (.int (nI k)), some (.int w), some (.int u), none, none]) rfl ?_
  suffices HH : ∀ M, (CW τ α M) → (Kr M0 M) → AW mX11_cell rmX11_cell (fun r' M' => r' = (some (.long (-9223372036854775808))) ∧ (fun M2 => Kr M0 M2 ∧ ∃ α2, CW (tu τ 0 0 0) α2 M2) M') 0 [some (.ref 2), some (.int (nI k)), some (.int w), some (.int u), none, none] [] M 0 0 from HH M0 hC (Kr.rf _)
  intro M hC hR
  refine aw_aload0 0 dX11_cell_0 ?_
  refine aw_ic0 1 dX11_cell_1 ?_
  refine fp_put 2 dX11_cell_2 ckF_RX11_64_11 ckP11_12 hC.xo.1 rfl rfl (fun M hd => ?_)
  replace hR := hR.trans (hd.toWd.kp.kr hC.m1 (fun b q => by omega))
  replace hC := hC.flt hd
  clear hd
  refine aw_aload0 5 dX11_cell_5 ?_
  refine aw_iload1 6 dX11_cell_6 ?_
  refine cr_v1 7 dX11_cell_7 (c_X11_sheetAt hC hk) ckV_RX11_68 cd_X11_sheetAt hC.xo.1 vc11 rfl rfl (Nat.le_of_ble_eq_true rfl) ⟨⟨by decide, by decide⟩, by decide, by decide⟩ rfl ?_
  refine aw_astore4 10 dX11_cell_10 rfl ?_
  refine aw_aload4 12 dX11_cell_12 ?_
  refine aw_ifnull 14 dX11_cell_14 ?_
  refine aw_iload3 17 dX11_cell_17 ?_
  refine cr_s1 18 dX11_cell_18 (cr_sd c_X11_isLane) ckS_RX11_76 cd_X11_isLane rfl (Nat.le_of_ble_eq_true rfl) ⟨⟨by decide, by decide⟩, by decide, by decide⟩ rfl ?_
  refine aw_ifne_b 21 28 dX11_cell_21 (by decide) (fun h21 => ?_) (fun h21 => ?_)
  · exact absurd h21 hno
  · refine aw_ldc2 24 (-9223372036854775808) dX11_cell_24 ckL_RX11_251 ?_
    refine aw_lret 27 dX11_cell_27 rfl (Nat.zero_le _) (Nat.zero_le _) ?_
    exact ⟨rfl, hR, α, hC⟩

set_option maxHeartbeats 4000000 in
set_option maxRecDepth 100000 in
theorem n3_X11_cell {M0 : Mem} {τ : TT} {α : AT} {k : Nat} {i l : Int32} (hC : CW τ α M0) (hk : k < 4) (hl : irg l 0 2) (hc : 0 < fCl τ k i l) : CK mX11_cell rmX11_cell [.int (nI k), .int i, .int l] M0 (.long (-9223372036854775808)) (tu τ 0 0 (fCl τ k i l)) := by
  refine am_of rfl rfl (ls := [some (.ref 2), some (.int (nI k)), some (.int i), some (.int l), none, none]) rfl ?_
  suffices HH : ∀ M, (CW τ α M) → (Kr M0 M) → AW mX11_cell rmX11_cell (fun r' M' => r' = (some (.long (-9223372036854775808))) ∧ (fun M2 => Kr M0 M2 ∧ ∃ α2, CW (tu τ 0 0 (fCl τ k i l)) α2 M2) M') 0 [some (.ref 2), some (.int (nI k)), some (.int i), some (.int l), none, none] [] M 0 0 from HH M0 hC (Kr.rf _)
  intro M hC hR
  refine aw_aload0 0 dX11_cell_0 ?_
  refine aw_ic0 1 dX11_cell_1 ?_
  refine fp_put 2 dX11_cell_2 ckF_RX11_64_11 ckP11_12 hC.xo.1 rfl rfl (fun M hd => ?_)
  replace hR := hR.trans (hd.toWd.kp.kr hC.m1 (fun b q => by omega))
  replace hC := hC.flt hd
  clear hd
  refine aw_aload0 5 dX11_cell_5 ?_
  refine aw_iload1 6 dX11_cell_6 ?_
  refine cr_v1 7 dX11_cell_7 (c_X11_sheetAt hC hk) ckV_RX11_68 cd_X11_sheetAt hC.xo.1 vc11 rfl rfl (Nat.le_of_ble_eq_true rfl) ⟨⟨by decide, by decide⟩, by decide, by decide⟩ rfl ?_
  refine aw_astore4 10 dX11_cell_10 rfl ?_
  refine aw_aload4 12 dX11_cell_12 ?_
  refine aw_ifnull 14 dX11_cell_14 ?_
  refine aw_iload3 17 dX11_cell_17 ?_
  refine cr_s1 18 dX11_cell_18 (cr_sd c_X11_isLane) ckS_RX11_76 cd_X11_isLane rfl (Nat.le_of_ble_eq_true rfl) ⟨⟨by decide, by decide⟩, by decide, by decide⟩ rfl ?_
  refine aw_ifne_b 21 28 dX11_cell_21 (by decide) (fun h21 => ?_) (fun h21 => ?_)
  · obtain ⟨hr0, lane0, len0, c0, hV, hv1, hv2⟩ := hC.sh k hk
    refine aw_aload4 28 dX11_cell_28 ?_
    refine aw_iload3 30 dX11_cell_30 ?_
    refine aw_iload2 31 dX11_cell_31 ?_
    refine aw_ic1 32 dX11_cell_32 ?_
    refine cr_v1 33 dX11_cell_33 (hC.fault hk) ckV_RX11_80 cd_X5_faultOf hV.1 vc5 rfl rfl (Nat.le_of_ble_eq_true rfl) ⟨⟨by decide, by decide⟩, by decide, by decide⟩ rfl ?_
    refine aw_topi (w := fCl τ k i l) (bar_fCl hC.ws hk) ?_
    refine aw_istore5 36 dX11_cell_36 rfl ?_
    refine aw_iload5 38 dX11_cell_38 ?_
    refine aw_if_eq 40 53 dX11_cell_40 (by decide) (fun h40 => ?_) (fun h40 => ?_)
    · exact absurd h40 (fCl_nz hc)
    · refine aw_aload0 43 dX11_cell_43 ?_
      refine aw_iload5 44 dX11_cell_44 ?_
      refine fp_put 46 dX11_cell_46 ckF_RX11_64_11 ckP11_12 hC.xo.1 rfl rfl (fun M hd => ?_)
      replace hR := hR.trans (hd.toWd.kp.kr hC.m1 (fun b q => by omega))
      replace hC := hC.flt hd
      rw [tu_ch] at hC
      refine aw_ldc2 49 (-9223372036854775808) dX11_cell_49 ckL_RX11_251 ?_
      refine aw_lret 52 dX11_cell_52 rfl (Nat.zero_le _) (Nat.zero_le _) ?_
      exact ⟨rfl, hR, α, hC⟩
  · exact absurd hl h21

set_option maxHeartbeats 4000000 in
set_option maxRecDepth 100000 in
theorem c_X11_cell {M0 : Mem} {τ : TT} {α : AT} {k j : Nat} {l : Int32} (hC : CW τ α M0) (hk : k < 4) (hl : irg l 0 2) (h0 : ¬ τ 28 k < 0) (hll : τ 29 k = l) (hj : j < ssz τ k) : CK mX11_cell rmX11_cell [.int (nI k), .int (nI j), .int l] M0 (.long (τ 30 (60 * k + j)).toInt64) (tu τ 0 0 0) := by
  refine am_of rfl rfl (ls := [some (.ref 2), some (.int (nI k)), some (.int (nI j)), some (.int l), none, none]) rfl ?_
  suffices HH : ∀ M, (CW τ α M) → (Kr M0 M) → AW mX11_cell rmX11_cell (fun r' M' => r' = (some (.long (τ 30 (60 * k + j)).toInt64)) ∧ (fun M2 => Kr M0 M2 ∧ ∃ α2, CW (tu τ 0 0 0) α2 M2) M') 0 [some (.ref 2), some (.int (nI k)), some (.int (nI j)), some (.int l), none, none] [] M 0 0 from HH M0 hC (Kr.rf _)
  intro M hC hR
  refine aw_aload0 0 dX11_cell_0 ?_
  refine aw_ic0 1 dX11_cell_1 ?_
  refine fp_put 2 dX11_cell_2 ckF_RX11_64_11 ckP11_12 hC.xo.1 rfl rfl (fun M hd => ?_)
  replace hR := hR.trans (hd.toWd.kp.kr hC.m1 (fun b q => by omega))
  replace hC := hC.flt hd
  clear hd
  refine aw_aload0 5 dX11_cell_5 ?_
  refine aw_iload1 6 dX11_cell_6 ?_
  refine cr_v1 7 dX11_cell_7 (c_X11_sheetAt hC hk) ckV_RX11_68 cd_X11_sheetAt hC.xo.1 vc11 rfl rfl (Nat.le_of_ble_eq_true rfl) ⟨⟨by decide, by decide⟩, by decide, by decide⟩ rfl ?_
  refine aw_astore4 10 dX11_cell_10 rfl ?_
  refine aw_aload4 12 dX11_cell_12 ?_
  refine aw_ifnull 14 dX11_cell_14 ?_
  refine aw_iload3 17 dX11_cell_17 ?_
  refine cr_s1 18 dX11_cell_18 (cr_sd c_X11_isLane) ckS_RX11_76 cd_X11_isLane rfl (Nat.le_of_ble_eq_true rfl) ⟨⟨by decide, by decide⟩, by decide, by decide⟩ rfl ?_
  refine aw_ifne_b 21 28 dX11_cell_21 (by decide) (fun h21 => ?_) (fun h21 => ?_)
  · obtain ⟨c0, hV, h60, hc0⟩ := hC.row hk h0
    refine aw_aload4 28 dX11_cell_28 ?_
    refine aw_iload3 30 dX11_cell_30 ?_
    refine aw_iload2 31 dX11_cell_31 ?_
    refine aw_ic1 32 dX11_cell_32 ?_
    refine cr_v1 33 dX11_cell_33 (hC.fault hk) ckV_RX11_80 cd_X5_faultOf hV.1 vc5 rfl rfl (Nat.le_of_ble_eq_true rfl) ⟨⟨by decide, by decide⟩, by decide, by decide⟩ rfl ?_
    refine aw_topi (w := 0) (bar_0 (n := 1) hC.ws hk h0 hll (by show j + 1 ≤ ssz τ k; omega)) ?_
    refine aw_istore5 36 dX11_cell_36 rfl ?_
    refine aw_iload5 38 dX11_cell_38 ?_
    refine aw_if_eqN 40 53 (0) dX11_cell_40 (by decide) rfl (by decide) (fun _ => ?_) (fun h => absurd h (by decide))
    refine aw_aload4 53 dX11_cell_53 ?_
    refine aw_iload2 55 dX11_cell_55 ?_
    refine cr_v1 56 dX11_cell_56 (c_X5_at hV h60 hj) ckV_RX11_236 cd_X5_at hV.1 vc5 rfl rfl (Nat.le_of_ble_eq_true rfl) ⟨⟨by decide, by decide⟩, by decide, by decide⟩ rfl ?_
    refine aw_topi (w := τ 30 (60 * k + j)) (hc0 j hj) ?_
    refine aw_i2l 59 dX11_cell_59 ?_
    refine aw_lret 60 dX11_cell_60 rfl (Nat.zero_le _) (Nat.zero_le _) ?_
    exact ⟨rfl, hR, α, hC⟩
  · exact absurd hl h21

def rmX11_copy : Room := { frames := 2, cells := 0, slots := 0, locals := 43 }
set_option maxHeartbeats 4000000 in
set_option maxRecDepth 100000 in
theorem n00_X11_copy {M0 : Mem} {τ : TT} {α : AT} {v : Int32} {w : Int32} {i j n : Int32} (hC : CW τ α M0) (hno : ¬ irg v 0 3) (hno2 : ¬ irg w 0 3) : CK mX11_copy rmX11_copy [.int v, .int i, .int w, .int j, .int n] M0 (.int (-1)) (tu τ 0 0 0) := by
  refine am_of rfl rfl (ls := [some (.ref 2), some (.int v), some (.int i), some (.int w), some (.int j), some (.int n), none, none]) rfl ?_
  suffices HH : ∀ M, (CW τ α M) → (Kr M0 M) → AW mX11_copy rmX11_copy (fun r' M' => r' = (some (.int (-1))) ∧ (fun M2 => Kr M0 M2 ∧ ∃ α2, CW (tu τ 0 0 0) α2 M2) M') 0 [some (.ref 2), some (.int v), some (.int i), some (.int w), some (.int j), some (.int n), none, none] [] M 0 0 from HH M0 hC (Kr.rf _)
  intro M hC hR
  refine aw_aload0 0 dX11_copy_0 ?_
  refine aw_ic0 1 dX11_copy_1 ?_
  refine fp_put 2 dX11_copy_2 ckF_RX11_64_11 ckP11_12 hC.xo.1 rfl rfl (fun M hd => ?_)
  replace hR := hR.trans (hd.toWd.kp.kr hC.m1 (fun b q => by omega))
  replace hC := hC.flt hd
  clear hd
  refine aw_aload0 5 dX11_copy_5 ?_
  refine aw_iload1 6 dX11_copy_6 ?_
  refine cr_v1 7 dX11_copy_7 (n_X11_sheetAt hC hno) ckV_RX11_68 cd_X11_sheetAt hC.xo.1 vc11 rfl rfl (Nat.le_of_ble_eq_true rfl) ⟨⟨by decide, by decide⟩, by decide, by decide⟩ rfl ?_
  refine aw_astoreN6 10 dX11_copy_10 rfl ?_
  refine aw_aload0 12 dX11_copy_12 ?_
  refine aw_iload3 13 dX11_copy_13 ?_
  refine cr_v1 14 dX11_copy_14 (n_X11_sheetAt hC hno2) ckV_RX11_68 cd_X11_sheetAt hC.xo.1 vc11 rfl rfl (Nat.le_of_ble_eq_true rfl) ⟨⟨by decide, by decide⟩, by decide, by decide⟩ rfl ?_
  refine aw_astoreN7 17 dX11_copy_17 rfl ?_
  refine aw_aloadN6 19 dX11_copy_19 ?_
  refine aw_ifnullN 21 29 dX11_copy_21 (by decide) ?_
  refine aw_icm1 29 dX11_copy_29 ?_
  refine aw_iret 30 dX11_copy_30 rfl (Nat.zero_le _) (Nat.zero_le _) ?_
  exact ⟨rfl, hR, α, hC⟩

set_option maxHeartbeats 4000000 in
set_option maxRecDepth 100000 in
theorem n01_X11_copy {M0 : Mem} {τ : TT} {α : AT} {v : Int32} {o : Nat} {i j n : Int32} (hC : CW τ α M0) (hno : ¬ irg v 0 3) (ho : o < 4) : CK mX11_copy rmX11_copy [.int v, .int i, .int (nI o), .int j, .int n] M0 (.int (-1)) (tu τ 0 0 0) := by
  refine am_of rfl rfl (ls := [some (.ref 2), some (.int v), some (.int i), some (.int (nI o)), some (.int j), some (.int n), none, none]) rfl ?_
  suffices HH : ∀ M, (CW τ α M) → (Kr M0 M) → AW mX11_copy rmX11_copy (fun r' M' => r' = (some (.int (-1))) ∧ (fun M2 => Kr M0 M2 ∧ ∃ α2, CW (tu τ 0 0 0) α2 M2) M') 0 [some (.ref 2), some (.int v), some (.int i), some (.int (nI o)), some (.int j), some (.int n), none, none] [] M 0 0 from HH M0 hC (Kr.rf _)
  intro M hC hR
  refine aw_aload0 0 dX11_copy_0 ?_
  refine aw_ic0 1 dX11_copy_1 ?_
  refine fp_put 2 dX11_copy_2 ckF_RX11_64_11 ckP11_12 hC.xo.1 rfl rfl (fun M hd => ?_)
  replace hR := hR.trans (hd.toWd.kp.kr hC.m1 (fun b q => by omega))
  replace hC := hC.flt hd
  clear hd
  refine aw_aload0 5 dX11_copy_5 ?_
  refine aw_iload1 6 dX11_copy_6 ?_
  refine cr_v1 7 dX11_copy_7 (n_X11_sheetAt hC hno) ckV_RX11_68 cd_X11_sheetAt hC.xo.1 vc11 rfl rfl (Nat.le_of_ble_eq_true rfl) ⟨⟨by decide, by decide⟩, by decide, by decide⟩ rfl ?_
  refine aw_astoreN6 10 dX11_copy_10 rfl ?_
  refine aw_aload0 12 dX11_copy_12 ?_
  refine aw_iload3 13 dX11_copy_13 ?_
  refine cr_v1 14 dX11_copy_14 (c_X11_sheetAt hC ho) ckV_RX11_68 cd_X11_sheetAt hC.xo.1 vc11 rfl rfl (Nat.le_of_ble_eq_true rfl) ⟨⟨by decide, by decide⟩, by decide, by decide⟩ rfl ?_
  refine aw_astore7 17 dX11_copy_17 rfl ?_
  refine aw_aloadN6 19 dX11_copy_19 ?_
  refine aw_ifnullN 21 29 dX11_copy_21 (by decide) ?_
  refine aw_icm1 29 dX11_copy_29 ?_
  refine aw_iret 30 dX11_copy_30 rfl (Nat.zero_le _) (Nat.zero_le _) ?_
  exact ⟨rfl, hR, α, hC⟩

set_option maxHeartbeats 4000000 in
set_option maxRecDepth 100000 in
theorem n10_X11_copy {M0 : Mem} {τ : TT} {α : AT} {k : Nat} {w : Int32} {i j n : Int32} (hC : CW τ α M0) (hk : k < 4) (hno2 : ¬ irg w 0 3) : CK mX11_copy rmX11_copy [.int (nI k), .int i, .int w, .int j, .int n] M0 (.int (-1)) (tu τ 0 0 0) := by
  refine am_of rfl rfl (ls := [some (.ref 2), some (.int (nI k)), some (.int i), some (.int w), some (.int j), some (.int n), none, none]) rfl ?_
  suffices HH : ∀ M, (CW τ α M) → (Kr M0 M) → AW mX11_copy rmX11_copy (fun r' M' => r' = (some (.int (-1))) ∧ (fun M2 => Kr M0 M2 ∧ ∃ α2, CW (tu τ 0 0 0) α2 M2) M') 0 [some (.ref 2), some (.int (nI k)), some (.int i), some (.int w), some (.int j), some (.int n), none, none] [] M 0 0 from HH M0 hC (Kr.rf _)
  intro M hC hR
  refine aw_aload0 0 dX11_copy_0 ?_
  refine aw_ic0 1 dX11_copy_1 ?_
  refine fp_put 2 dX11_copy_2 ckF_RX11_64_11 ckP11_12 hC.xo.1 rfl rfl (fun M hd => ?_)
  replace hR := hR.trans (hd.toWd.kp.kr hC.m1 (fun b q => by omega))
  replace hC := hC.flt hd
  clear hd
  refine aw_aload0 5 dX11_copy_5 ?_
  refine aw_iload1 6 dX11_copy_6 ?_
  refine cr_v1 7 dX11_copy_7 (c_X11_sheetAt hC hk) ckV_RX11_68 cd_X11_sheetAt hC.xo.1 vc11 rfl rfl (Nat.le_of_ble_eq_true rfl) ⟨⟨by decide, by decide⟩, by decide, by decide⟩ rfl ?_
  refine aw_astore6 10 dX11_copy_10 rfl ?_
  refine aw_aload0 12 dX11_copy_12 ?_
  refine aw_iload3 13 dX11_copy_13 ?_
  refine cr_v1 14 dX11_copy_14 (n_X11_sheetAt hC hno2) ckV_RX11_68 cd_X11_sheetAt hC.xo.1 vc11 rfl rfl (Nat.le_of_ble_eq_true rfl) ⟨⟨by decide, by decide⟩, by decide, by decide⟩ rfl ?_
  refine aw_astoreN7 17 dX11_copy_17 rfl ?_
  refine aw_aload6 19 dX11_copy_19 ?_
  refine aw_ifnull 21 dX11_copy_21 ?_
  refine aw_aloadN7 24 dX11_copy_24 ?_
  refine aw_ifnonnullN 26 dX11_copy_26 ?_
  refine aw_icm1 29 dX11_copy_29 ?_
  refine aw_iret 30 dX11_copy_30 rfl (Nat.zero_le _) (Nat.zero_le _) ?_
  exact ⟨rfl, hR, α, hC⟩

set_option maxHeartbeats 4000000 in
set_option maxRecDepth 100000 in
theorem n2_X11_copy {M0 : Mem} {τ : TT} {α : AT} {k o : Nat} {i j n : Int32} (hC : CW τ α M0) (hk : k < 4) (ho : o < 4) (h0 : τ 28 k < 0) : CK mX11_copy rmX11_copy [.int (nI k), .int i, .int (nI o), .int j, .int n] M0 (.int (-11)) (tu τ 0 0 1) := by
  refine am_of rfl rfl (ls := [some (.ref 2), some (.int (nI k)), some (.int i), some (.int (nI o)), some (.int j), some (.int n), none, none]) rfl ?_
  suffices HH : ∀ M, (CW τ α M) → (Kr M0 M) → AW mX11_copy rmX11_copy (fun r' M' => r' = (some (.int (-11))) ∧ (fun M2 => Kr M0 M2 ∧ ∃ α2, CW (tu τ 0 0 1) α2 M2) M') 0 [some (.ref 2), some (.int (nI k)), some (.int i), some (.int (nI o)), some (.int j), some (.int n), none, none] [] M 0 0 from HH M0 hC (Kr.rf _)
  intro M hC hR
  refine aw_aload0 0 dX11_copy_0 ?_
  refine aw_ic0 1 dX11_copy_1 ?_
  refine fp_put 2 dX11_copy_2 ckF_RX11_64_11 ckP11_12 hC.xo.1 rfl rfl (fun M hd => ?_)
  replace hR := hR.trans (hd.toWd.kp.kr hC.m1 (fun b q => by omega))
  replace hC := hC.flt hd
  clear hd
  refine aw_aload0 5 dX11_copy_5 ?_
  refine aw_iload1 6 dX11_copy_6 ?_
  refine cr_v1 7 dX11_copy_7 (c_X11_sheetAt hC hk) ckV_RX11_68 cd_X11_sheetAt hC.xo.1 vc11 rfl rfl (Nat.le_of_ble_eq_true rfl) ⟨⟨by decide, by decide⟩, by decide, by decide⟩ rfl ?_
  refine aw_astore6 10 dX11_copy_10 rfl ?_
  refine aw_aload0 12 dX11_copy_12 ?_
  refine aw_iload3 13 dX11_copy_13 ?_
  refine cr_v1 14 dX11_copy_14 (c_X11_sheetAt hC ho) ckV_RX11_68 cd_X11_sheetAt hC.xo.1 vc11 rfl rfl (Nat.le_of_ble_eq_true rfl) ⟨⟨by decide, by decide⟩, by decide, by decide⟩ rfl ?_
  refine aw_astore7 17 dX11_copy_17 rfl ?_
  refine aw_aload6 19 dX11_copy_19 ?_
  refine aw_ifnull 21 dX11_copy_21 ?_
  refine aw_aload7 24 dX11_copy_24 ?_
  refine aw_ifnonnull 26 31 dX11_copy_26 (by decide) ?_
  obtain ⟨lane0, len0, c0, hV⟩ := hC.lost hk h0
  refine aw_aload6 31 dX11_copy_31 ?_
  refine aw_get 33 dX11_copy_33 ckF_RX11_289_5 hV.1 hV.2.2.1 ?_
  refine aw_if_eqN 36 47 (0) dX11_copy_36 (by decide) rfl (by decide) (fun _ => ?_) (fun h => absurd h (by decide))
  refine aw_aload0 47 dX11_copy_47 ?_
  refine aw_ic1 48 dX11_copy_48 ?_
  refine ap_v1 49 dX11_copy_49 (c_X11_failed hC) ckV_RX11_84 cd_X11_failed hC.xo.1 vc11 rfl rfl (Nat.le_of_ble_eq_true rfl) ⟨⟨by decide, by decide⟩, by decide, by decide⟩ rfl (fun M hd => ?_)
  replace hR := hR.trans (hd.toWd.kp.kr hC.m1 (fun b q => by omega))
  replace hC := hC.flt hd
  rw [tu_ch] at hC
  refine aw_iret 52 dX11_copy_52 rfl (Nat.zero_le _) (Nat.zero_le _) ?_
  exact ⟨by first | rfl | decide, hR, α, hC⟩

set_option maxHeartbeats 4000000 in
set_option maxRecDepth 100000 in
theorem n3_X11_copy {M0 : Mem} {τ : TT} {α : AT} {k o : Nat} {i j n : Int32} (hC : CW τ α M0) (hk : k < 4) (ho : o < 4) (h0 : ¬ τ 28 k < 0) (h1 : τ 28 o < 0) : CK mX11_copy rmX11_copy [.int (nI k), .int i, .int (nI o), .int j, .int n] M0 (.int (-11)) (tu τ 0 0 1) := by
  refine am_of rfl rfl (ls := [some (.ref 2), some (.int (nI k)), some (.int i), some (.int (nI o)), some (.int j), some (.int n), none, none]) rfl ?_
  suffices HH : ∀ M, (CW τ α M) → (Kr M0 M) → AW mX11_copy rmX11_copy (fun r' M' => r' = (some (.int (-11))) ∧ (fun M2 => Kr M0 M2 ∧ ∃ α2, CW (tu τ 0 0 1) α2 M2) M') 0 [some (.ref 2), some (.int (nI k)), some (.int i), some (.int (nI o)), some (.int j), some (.int n), none, none] [] M 0 0 from HH M0 hC (Kr.rf _)
  intro M hC hR
  refine aw_aload0 0 dX11_copy_0 ?_
  refine aw_ic0 1 dX11_copy_1 ?_
  refine fp_put 2 dX11_copy_2 ckF_RX11_64_11 ckP11_12 hC.xo.1 rfl rfl (fun M hd => ?_)
  replace hR := hR.trans (hd.toWd.kp.kr hC.m1 (fun b q => by omega))
  replace hC := hC.flt hd
  clear hd
  refine aw_aload0 5 dX11_copy_5 ?_
  refine aw_iload1 6 dX11_copy_6 ?_
  refine cr_v1 7 dX11_copy_7 (c_X11_sheetAt hC hk) ckV_RX11_68 cd_X11_sheetAt hC.xo.1 vc11 rfl rfl (Nat.le_of_ble_eq_true rfl) ⟨⟨by decide, by decide⟩, by decide, by decide⟩ rfl ?_
  refine aw_astore6 10 dX11_copy_10 rfl ?_
  refine aw_aload0 12 dX11_copy_12 ?_
  refine aw_iload3 13 dX11_copy_13 ?_
  refine cr_v1 14 dX11_copy_14 (c_X11_sheetAt hC ho) ckV_RX11_68 cd_X11_sheetAt hC.xo.1 vc11 rfl rfl (Nat.le_of_ble_eq_true rfl) ⟨⟨by decide, by decide⟩, by decide, by decide⟩ rfl ?_
  refine aw_astore7 17 dX11_copy_17 rfl ?_
  refine aw_aload6 19 dX11_copy_19 ?_
  refine aw_ifnull 21 dX11_copy_21 ?_
  refine aw_aload7 24 dX11_copy_24 ?_
  refine aw_ifnonnull 26 31 dX11_copy_26 (by decide) ?_
  obtain ⟨c0, hV, h60, hc0⟩ := hC.row hk h0
  obtain ⟨lane1, len1, c1, hU⟩ := hC.lost ho h1
  refine aw_aload6 31 dX11_copy_31 ?_
  refine aw_get 33 dX11_copy_33 ckF_RX11_289_5 hV.1 hV.2.2.1 ?_
  refine aw_if_eqN 36 47 (1) dX11_copy_36 (by decide) rfl (by decide) (fun h => absurd h (by decide)) (fun _ => ?_)
  refine aw_aload7 39 dX11_copy_39 ?_
  refine aw_get 41 dX11_copy_41 ckF_RX11_289_5 hU.1 hU.2.2.1 ?_
  refine aw_if_neN 44 53 (0) dX11_copy_44 (by decide) rfl (by decide) (fun h => absurd h (by decide)) (fun _ => ?_)
  refine aw_aload0 47 dX11_copy_47 ?_
  refine aw_ic1 48 dX11_copy_48 ?_
  refine ap_v1 49 dX11_copy_49 (c_X11_failed hC) ckV_RX11_84 cd_X11_failed hC.xo.1 vc11 rfl rfl (Nat.le_of_ble_eq_true rfl) ⟨⟨by decide, by decide⟩, by decide, by decide⟩ rfl (fun M hd => ?_)
  replace hR := hR.trans (hd.toWd.kp.kr hC.m1 (fun b q => by omega))
  replace hC := hC.flt hd
  rw [tu_ch] at hC
  refine aw_iret 52 dX11_copy_52 rfl (Nat.zero_le _) (Nat.zero_le _) ?_
  exact ⟨by first | rfl | decide, hR, α, hC⟩

set_option maxHeartbeats 4000000 in
set_option maxRecDepth 100000 in
theorem n4_X11_copy {M0 : Mem} {τ : TT} {α : AT} {k o : Nat} {i j n : Int32} (hC : CW τ α M0) (hk : k < 4) (ho : o < 4) (h0 : ¬ τ 28 k < 0) (h1 : ¬ τ 28 o < 0) (hl : ¬ τ 29 k = τ 29 o) : CK mX11_copy rmX11_copy [.int (nI k), .int i, .int (nI o), .int j, .int n] M0 (.int (-12)) (tu τ 0 0 2) := by
  refine am_of rfl rfl (ls := [some (.ref 2), some (.int (nI k)), some (.int i), some (.int (nI o)), some (.int j), some (.int n), none, none]) rfl ?_
  suffices HH : ∀ M, (CW τ α M) → (Kr M0 M) → AW mX11_copy rmX11_copy (fun r' M' => r' = (some (.int (-12))) ∧ (fun M2 => Kr M0 M2 ∧ ∃ α2, CW (tu τ 0 0 2) α2 M2) M') 0 [some (.ref 2), some (.int (nI k)), some (.int i), some (.int (nI o)), some (.int j), some (.int n), none, none] [] M 0 0 from HH M0 hC (Kr.rf _)
  intro M hC hR
  refine aw_aload0 0 dX11_copy_0 ?_
  refine aw_ic0 1 dX11_copy_1 ?_
  refine fp_put 2 dX11_copy_2 ckF_RX11_64_11 ckP11_12 hC.xo.1 rfl rfl (fun M hd => ?_)
  replace hR := hR.trans (hd.toWd.kp.kr hC.m1 (fun b q => by omega))
  replace hC := hC.flt hd
  clear hd
  refine aw_aload0 5 dX11_copy_5 ?_
  refine aw_iload1 6 dX11_copy_6 ?_
  refine cr_v1 7 dX11_copy_7 (c_X11_sheetAt hC hk) ckV_RX11_68 cd_X11_sheetAt hC.xo.1 vc11 rfl rfl (Nat.le_of_ble_eq_true rfl) ⟨⟨by decide, by decide⟩, by decide, by decide⟩ rfl ?_
  refine aw_astore6 10 dX11_copy_10 rfl ?_
  refine aw_aload0 12 dX11_copy_12 ?_
  refine aw_iload3 13 dX11_copy_13 ?_
  refine cr_v1 14 dX11_copy_14 (c_X11_sheetAt hC ho) ckV_RX11_68 cd_X11_sheetAt hC.xo.1 vc11 rfl rfl (Nat.le_of_ble_eq_true rfl) ⟨⟨by decide, by decide⟩, by decide, by decide⟩ rfl ?_
  refine aw_astore7 17 dX11_copy_17 rfl ?_
  refine aw_aload6 19 dX11_copy_19 ?_
  refine aw_ifnull 21 dX11_copy_21 ?_
  refine aw_aload7 24 dX11_copy_24 ?_
  refine aw_ifnonnull 26 31 dX11_copy_26 (by decide) ?_
  obtain ⟨c0, hV, h60, hc0⟩ := hC.row hk h0
  obtain ⟨c1, hU, h61, hc1⟩ := hC.row ho h1
  refine aw_aload6 31 dX11_copy_31 ?_
  refine aw_get 33 dX11_copy_33 ckF_RX11_289_5 hV.1 hV.2.2.1 ?_
  refine aw_if_eqN 36 47 (1) dX11_copy_36 (by decide) rfl (by decide) (fun h => absurd h (by decide)) (fun _ => ?_)
  refine aw_aload7 39 dX11_copy_39 ?_
  refine aw_get 41 dX11_copy_41 ckF_RX11_289_5 hU.1 hU.2.2.1 ?_
  refine aw_if_neN 44 53 (1) dX11_copy_44 (by decide) rfl (by decide) (fun _ => ?_) (fun h => absurd h (by decide))
  refine aw_aload6 53 dX11_copy_53 ?_
  refine aw_get 55 dX11_copy_55 ckF_RX11_293_5 hV.1 hV.2.2.2.1 ?_
  refine aw_aload7 58 dX11_copy_58 ?_
  refine aw_get 60 dX11_copy_60 ckF_RX11_293_5 hU.1 hU.2.2.2.1 ?_
  refine aw_icmp_eq 63 72 dX11_copy_63 (by decide) (fun h63 => ?_) (fun h63 => ?_)
  · exact absurd h63 hl
  · refine aw_aload0 66 dX11_copy_66 ?_
    refine aw_ic2 67 dX11_copy_67 ?_
    refine ap_v1 68 dX11_copy_68 (c_X11_failed hC) ckV_RX11_84 cd_X11_failed hC.xo.1 vc11 rfl rfl (Nat.le_of_ble_eq_true rfl) ⟨⟨by decide, by decide⟩, by decide, by decide⟩ rfl (fun M hd => ?_)
    replace hR := hR.trans (hd.toWd.kp.kr hC.m1 (fun b q => by omega))
    replace hC := hC.flt hd
    rw [tu_ch] at hC
    refine aw_iret 71 dX11_copy_71 rfl (Nat.zero_le _) (Nat.zero_le _) ?_
    exact ⟨by first | rfl | decide, hR, α, hC⟩

set_option maxHeartbeats 4000000 in
set_option maxRecDepth 100000 in
theorem n5_X11_copy {M0 : Mem} {τ : TT} {α : AT} {k o : Nat} {i j n : Int32} (hC : CW τ α M0) (hk : k < 4) (ho : o < 4) (h0 : ¬ τ 28 k < 0) (h1 : ¬ τ 28 o < 0) (hl : τ 29 k = τ 29 o) (hb : bey i n.toInt64 (τ 28 k) ∨ bey j n.toInt64 (τ 28 o)) : CK mX11_copy rmX11_copy [.int (nI k), .int i, .int (nI o), .int j, .int n] M0 (.int (-13)) (tu τ 0 0 3) := by
  refine am_of rfl rfl (ls := [some (.ref 2), some (.int (nI k)), some (.int i), some (.int (nI o)), some (.int j), some (.int n), none, none]) rfl ?_
  suffices HH : ∀ M, (CW τ α M) → (Kr M0 M) → AW mX11_copy rmX11_copy (fun r' M' => r' = (some (.int (-13))) ∧ (fun M2 => Kr M0 M2 ∧ ∃ α2, CW (tu τ 0 0 3) α2 M2) M') 0 [some (.ref 2), some (.int (nI k)), some (.int i), some (.int (nI o)), some (.int j), some (.int n), none, none] [] M 0 0 from HH M0 hC (Kr.rf _)
  intro M hC hR
  refine aw_aload0 0 dX11_copy_0 ?_
  refine aw_ic0 1 dX11_copy_1 ?_
  refine fp_put 2 dX11_copy_2 ckF_RX11_64_11 ckP11_12 hC.xo.1 rfl rfl (fun M hd => ?_)
  replace hR := hR.trans (hd.toWd.kp.kr hC.m1 (fun b q => by omega))
  replace hC := hC.flt hd
  clear hd
  refine aw_aload0 5 dX11_copy_5 ?_
  refine aw_iload1 6 dX11_copy_6 ?_
  refine cr_v1 7 dX11_copy_7 (c_X11_sheetAt hC hk) ckV_RX11_68 cd_X11_sheetAt hC.xo.1 vc11 rfl rfl (Nat.le_of_ble_eq_true rfl) ⟨⟨by decide, by decide⟩, by decide, by decide⟩ rfl ?_
  refine aw_astore6 10 dX11_copy_10 rfl ?_
  refine aw_aload0 12 dX11_copy_12 ?_
  refine aw_iload3 13 dX11_copy_13 ?_
  refine cr_v1 14 dX11_copy_14 (c_X11_sheetAt hC ho) ckV_RX11_68 cd_X11_sheetAt hC.xo.1 vc11 rfl rfl (Nat.le_of_ble_eq_true rfl) ⟨⟨by decide, by decide⟩, by decide, by decide⟩ rfl ?_
  refine aw_astore7 17 dX11_copy_17 rfl ?_
  refine aw_aload6 19 dX11_copy_19 ?_
  refine aw_ifnull 21 dX11_copy_21 ?_
  refine aw_aload7 24 dX11_copy_24 ?_
  refine aw_ifnonnull 26 31 dX11_copy_26 (by decide) ?_
  obtain ⟨c0, hV, h60, hc0⟩ := hC.row hk h0
  obtain ⟨c1, hU, h61, hc1⟩ := hC.row ho h1
  refine aw_aload6 31 dX11_copy_31 ?_
  refine aw_get 33 dX11_copy_33 ckF_RX11_289_5 hV.1 hV.2.2.1 ?_
  refine aw_if_eqN 36 47 (1) dX11_copy_36 (by decide) rfl (by decide) (fun h => absurd h (by decide)) (fun _ => ?_)
  refine aw_aload7 39 dX11_copy_39 ?_
  refine aw_get 41 dX11_copy_41 ckF_RX11_289_5 hU.1 hU.2.2.1 ?_
  refine aw_if_neN 44 53 (1) dX11_copy_44 (by decide) rfl (by decide) (fun _ => ?_) (fun h => absurd h (by decide))
  refine aw_aload6 53 dX11_copy_53 ?_
  refine aw_get 55 dX11_copy_55 ckF_RX11_293_5 hV.1 hV.2.2.2.1 ?_
  refine aw_aload7 58 dX11_copy_58 ?_
  refine aw_get 60 dX11_copy_60 ckF_RX11_293_5 hU.1 hU.2.2.2.1 ?_
  refine aw_icmp_eq 63 72 dX11_copy_63 (by decide) (fun h63 => ?_) (fun h63 => ?_)
  · refine aw_iload5 72 dX11_copy_72 ?_
    refine aw_if_lt 74 100 dX11_copy_74 (by decide) (fun h74 => ?_) (fun h74 => ?_)
    · refine aw_aload0 100 dX11_copy_100 ?_
      refine aw_ic3 101 dX11_copy_101 ?_
      refine ap_v1 102 dX11_copy_102 (c_X11_failed hC) ckV_RX11_84 cd_X11_failed hC.xo.1 vc11 rfl rfl (Nat.le_of_ble_eq_true rfl) ⟨⟨by decide, by decide⟩, by decide, by decide⟩ rfl (fun M hd => ?_)
      replace hR := hR.trans (hd.toWd.kp.kr hC.m1 (fun b q => by omega))
      replace hC := hC.flt hd
      rw [tu_ch] at hC
      refine aw_iret 105 dX11_copy_105 rfl (Nat.zero_le _) (Nat.zero_le _) ?_
      exact ⟨by first | rfl | decide, hR, α, hC⟩
    · refine aw_aload6 77 dX11_copy_77 ?_
      refine aw_iload2 79 dX11_copy_79 ?_
      refine aw_iload5 80 dX11_copy_80 ?_
      refine cr_v1 82 dX11_copy_82 (c_X5_lacks hV) ckV_RX11_299 cd_X5_lacks hV.1 vc5 rfl rfl (Nat.le_of_ble_eq_true rfl) ⟨⟨by decide, by decide⟩, by decide, by decide⟩ rfl ?_
      refine aw_ifne_b 85 100 dX11_copy_85 (by decide) (fun h85 => ?_) (fun h85 => ?_)
      · refine aw_aload0 100 dX11_copy_100 ?_
        refine aw_ic3 101 dX11_copy_101 ?_
        refine ap_v1 102 dX11_copy_102 (c_X11_failed hC) ckV_RX11_84 cd_X11_failed hC.xo.1 vc11 rfl rfl (Nat.le_of_ble_eq_true rfl) ⟨⟨by decide, by decide⟩, by decide, by decide⟩ rfl (fun M hd => ?_)
        replace hR := hR.trans (hd.toWd.kp.kr hC.m1 (fun b q => by omega))
        replace hC := hC.flt hd
        rw [tu_ch] at hC
        refine aw_iret 105 dX11_copy_105 rfl (Nat.zero_le _) (Nat.zero_le _) ?_
        exact ⟨by first | rfl | decide, hR, α, hC⟩
      · refine aw_aload7 88 dX11_copy_88 ?_
        refine aw_iload4 90 dX11_copy_90 ?_
        refine aw_iload5 92 dX11_copy_92 ?_
        refine cr_v1 94 dX11_copy_94 (c_X5_lacks hU) ckV_RX11_299 cd_X5_lacks hU.1 vc5 rfl rfl (Nat.le_of_ble_eq_true rfl) ⟨⟨by decide, by decide⟩, by decide, by decide⟩ rfl ?_
        refine aw_ifeq_b 97 106 dX11_copy_97 (by decide) (fun h97 => ?_) (fun h97 => ?_)
        · exact (hb.elim (fun q => h85 ((lack_bey hC.ws hk h0 h74).mpr q)) (fun q => h97 ((lack_bey hC.ws ho h1 h74).mpr q))).elim
        · refine aw_aload0 100 dX11_copy_100 ?_
          refine aw_ic3 101 dX11_copy_101 ?_
          refine ap_v1 102 dX11_copy_102 (c_X11_failed hC) ckV_RX11_84 cd_X11_failed hC.xo.1 vc11 rfl rfl (Nat.le_of_ble_eq_true rfl) ⟨⟨by decide, by decide⟩, by decide, by decide⟩ rfl (fun M hd => ?_)
          replace hR := hR.trans (hd.toWd.kp.kr hC.m1 (fun b q => by omega))
          replace hC := hC.flt hd
          rw [tu_ch] at hC
          refine aw_iret 105 dX11_copy_105 rfl (Nat.zero_le _) (Nat.zero_le _) ?_
          exact ⟨by first | rfl | decide, hR, α, hC⟩
  · exact absurd hl h63

set_option maxHeartbeats 4000000 in
set_option maxRecDepth 100000 in
theorem c_X11_copy {M0 : Mem} {τ : TT} {α : AT} {k o i j n : Nat} (hC : CW τ α M0) (hk : k < 4) (ho : o < 4) (h0 : ¬ τ 28 k < 0) (h1 : ¬ τ 28 o < 0) (hl : τ 29 k = τ 29 o) (hi : i + n ≤ ssz τ k) (hj : j + n ≤ ssz τ o) : CK mX11_copy rmX11_copy [.int (nI k), .int (nI i), .int (nI o), .int (nI j), .int (nI n)] M0 (.int (nI n)) (tCp τ k o i j n) := by
  refine am_of rfl rfl (ls := [some (.ref 2), some (.int (nI k)), some (.int (nI i)), some (.int (nI o)), some (.int (nI j)), some (.int (nI n)), none, none]) rfl ?_
  suffices HH : ∀ M, (CW τ α M) → (Kr M0 M) → AW mX11_copy rmX11_copy (fun r' M' => r' = (some (.int (nI n))) ∧ (fun M2 => Kr M0 M2 ∧ ∃ α2, CW (tCp τ k o i j n) α2 M2) M') 0 [some (.ref 2), some (.int (nI k)), some (.int (nI i)), some (.int (nI o)), some (.int (nI j)), some (.int (nI n)), none, none] [] M 0 0 from HH M0 hC (Kr.rf _)
  intro M hC hR
  refine aw_aload0 0 dX11_copy_0 ?_
  refine aw_ic0 1 dX11_copy_1 ?_
  refine fp_put 2 dX11_copy_2 ckF_RX11_64_11 ckP11_12 hC.xo.1 rfl rfl (fun M hd => ?_)
  replace hR := hR.trans (hd.toWd.kp.kr hC.m1 (fun b q => by omega))
  replace hC := hC.flt hd
  clear hd
  refine aw_aload0 5 dX11_copy_5 ?_
  refine aw_iload1 6 dX11_copy_6 ?_
  refine cr_v1 7 dX11_copy_7 (c_X11_sheetAt hC hk) ckV_RX11_68 cd_X11_sheetAt hC.xo.1 vc11 rfl rfl (Nat.le_of_ble_eq_true rfl) ⟨⟨by decide, by decide⟩, by decide, by decide⟩ rfl ?_
  refine aw_astore6 10 dX11_copy_10 rfl ?_
  refine aw_aload0 12 dX11_copy_12 ?_
  refine aw_iload3 13 dX11_copy_13 ?_
  refine cr_v1 14 dX11_copy_14 (c_X11_sheetAt hC ho) ckV_RX11_68 cd_X11_sheetAt hC.xo.1 vc11 rfl rfl (Nat.le_of_ble_eq_true rfl) ⟨⟨by decide, by decide⟩, by decide, by decide⟩ rfl ?_
  refine aw_astore7 17 dX11_copy_17 rfl ?_
  refine aw_aload6 19 dX11_copy_19 ?_
  refine aw_ifnull 21 dX11_copy_21 ?_
  refine aw_aload7 24 dX11_copy_24 ?_
  refine aw_ifnonnull 26 31 dX11_copy_26 (by decide) ?_
  obtain ⟨c0, hV, h60, hc0⟩ := hC.row hk h0
  obtain ⟨c1, hU, h61, hc1⟩ := hC.row ho h1
  have h60 : ssz τ k ≤ 60 := h60
  have h61 : ssz τ o ≤ 60 := h61
  refine aw_aload6 31 dX11_copy_31 ?_
  refine aw_get 33 dX11_copy_33 ckF_RX11_289_5 hV.1 hV.2.2.1 ?_
  refine aw_if_eqN 36 47 (1) dX11_copy_36 (by decide) rfl (by decide) (fun h => absurd h (by decide)) (fun _ => ?_)
  refine aw_aload7 39 dX11_copy_39 ?_
  refine aw_get 41 dX11_copy_41 ckF_RX11_289_5 hU.1 hU.2.2.1 ?_
  refine aw_if_neN 44 53 (1) dX11_copy_44 (by decide) rfl (by decide) (fun _ => ?_) (fun h => absurd h (by decide))
  refine aw_aload6 53 dX11_copy_53 ?_
  refine aw_get 55 dX11_copy_55 ckF_RX11_293_5 hV.1 hV.2.2.2.1 ?_
  refine aw_aload7 58 dX11_copy_58 ?_
  refine aw_get 60 dX11_copy_60 ckF_RX11_293_5 hU.1 hU.2.2.2.1 ?_
  refine aw_icmp_eq 63 72 dX11_copy_63 (by decide) (fun h63 => ?_) (fun h63 => ?_)
  · refine aw_iload5 72 dX11_copy_72 ?_
    refine aw_if_ltN 74 100 (n) dX11_copy_74 (by decide) rfl (by omega) ?_
    refine aw_aload6 77 dX11_copy_77 ?_
    refine aw_iload2 79 dX11_copy_79 ?_
    refine aw_iload5 80 dX11_copy_80 ?_
    refine cr_v1 82 dX11_copy_82 (c_X5_lacks hV) ckV_RX11_299 cd_X5_lacks hV.1 vc5 rfl rfl (Nat.le_of_ble_eq_true rfl) ⟨⟨by decide, by decide⟩, by decide, by decide⟩ rfl ?_
    refine aw_ifne_b 85 100 dX11_copy_85 (by decide) (fun h85 => ?_) (fun h85 => ?_)
    · exact absurd ((lack_bey hC.ws hk h0 (nI_pos (by omega))).mp h85) (by rw [(hC.ws.ok hk h0).2]; exact bey_no h60 hi)
    · refine aw_aload7 88 dX11_copy_88 ?_
      refine aw_iload4 90 dX11_copy_90 ?_
      refine aw_iload5 92 dX11_copy_92 ?_
      refine cr_v1 94 dX11_copy_94 (c_X5_lacks hU) ckV_RX11_299 cd_X5_lacks hU.1 vc5 rfl rfl (Nat.le_of_ble_eq_true rfl) ⟨⟨by decide, by decide⟩, by decide, by decide⟩ rfl ?_
      refine aw_ifeq_b 97 106 dX11_copy_97 (by decide) (fun h97 => ?_) (fun h97 => ?_)
      · refine aw_aload6 106 dX11_copy_106 ?_
        refine aw_get 108 dX11_copy_108 ckF_RX11_302_5 hV.1 hV.2.1 ?_
        refine aw_iload2 111 dX11_copy_111 ?_
        refine aw_aload7 112 dX11_copy_112 ?_
        refine aw_get 114 dX11_copy_114 ckF_RX11_302_5 hU.1 hU.2.1 ?_
        refine aw_iload4 117 dX11_copy_117 ?_
        refine aw_iload5 119 dX11_copy_119 ?_
        refine aw_copy 121 (i) (j) (n) dX11_copy_121 ckY_RX11_305 hV.2.2.2.2.2.1 hU.2.2.2.2.2.1 (by omega) (by omega) rfl rfl rfl (by omega) (by omega) (by decide) (by decide) (fun b hb => ⟨_, hV.2.2.2.2.2.2 _ (by omega)⟩) (Nat.le_of_ble_eq_true rfl) (by decide) (by decide) ?_
        have hwd : Wd (17 + 2 * o + 1) M (wa M (17 + 2 * o + 1) (cpV (M.2.2 (17 + 2 * k + 1)) (M.2.2 (17 + 2 * o + 1)) i j n)) := ⟨rfl, rfl, fun c hc => if_neg hc⟩
        have hAR : AR (wa M (17 + 2 * o + 1) (cpV (M.2.2 (17 + 2 * k + 1)) (M.2.2 (17 + 2 * o + 1)) i j n)) (17 + 2 * o + 1) 60 (fun b => if j ≤ b ∧ b < j + n then c0 (i + (b - j)) else c1 b) := ⟨hU.2.2.2.2.2.1, fun b hb => by
          show (if 17 + 2 * o + 1 = 17 + 2 * o + 1 then cpV (M.2.2 (17 + 2 * k + 1)) (M.2.2 (17 + 2 * o + 1)) i j n else M.2.2 (17 + 2 * o + 1)) b = Value.int (if j ≤ b ∧ b < j + n then c0 (i + (b - j)) else c1 b)
          rw [if_pos rfl]
          unfold cpV
          by_cases c : j ≤ b ∧ b < j + n
          · rw [if_pos c, if_pos c]; exact hV.2.2.2.2.2.2 _ (by omega)
          · rw [if_neg c, if_neg c]; exact hU.2.2.2.2.2.2 _ hb⟩
        generalize wa M (17 + 2 * o + 1) (cpV (M.2.2 (17 + 2 * k + 1)) (M.2.2 (17 + 2 * o + 1)) i j n) = M1 at hwd hAR ⊢
        replace hR := hR.trans (hwd.kp.kr hC.m1 (fun b q => by omega))
        replace hC := hC.wrc (g := fun b => τ 30 (60 * k + i + (b - (60 * o + j)))) ho h1 hU hwd hAR (60 * o + j) (60 * o + j + n) (by omega) (by omega) (fun b hb => by
          by_cases c : j ≤ b ∧ b < j + n
          · rw [ov_in (by omega)]
            show (if j ≤ b ∧ b < j + n then c0 (i + (b - j)) else c1 b) = _
            rw [if_pos c, hc0 _ (by have : i + (b - j) < ssz τ k := by omega
                                    exact this)]
            show τ 30 (60 * k + (i + (b - j))) = τ 30 (60 * k + i + (60 * o + b - (60 * o + j)))
            congr 1
            omega
          · rw [ov_out (by omega)]
            show (if j ≤ b ∧ b < j + n then c0 (i + (b - j)) else c1 b) = _
            rw [if_neg c]; exact hc1 b hb)
        refine aw_iload5 124 dX11_copy_124 ?_
        refine aw_iret 126 dX11_copy_126 rfl (Nat.zero_le _) (Nat.zero_le _) ?_
        refine ⟨rfl, hR, α, hC.obs (fun z hz => ?_)⟩
        show tCp τ k o i j n z = _
        unfold tCp
        by_cases e : z = 30
        · subst e; rfl
        · exact tu0_cg (by rw [ov_ne e, ov_ne e, ov_ne (fun q => hz (by unfold scr; omega))])
      · exact absurd ((lack_bey hC.ws ho h1 (nI_pos (by omega))).mp h97) (by rw [(hC.ws.ok ho h1).2]; exact bey_no h61 hj)
  · exact absurd hl h63

theorem prG_0 {τ : TT} {b x : Nat} (h : prG τ b x = 0) : ∀ y, x ≤ y → prG τ b y = 0 := by
  intro y hy
  induction y with
  | zero => rw [show x = 0 by omega] at h; exact h
  | succ y ih =>
    by_cases e : x = y + 1
    · rw [← e]; exact h
    · rw [prG_s, if_neg (fun q => q.1 (ih (by omega)))]

def rmX11_proves : Room := { frames := 2, cells := 0, slots := 0, locals := 45 }
set_option maxHeartbeats 4000000 in
set_option maxRecDepth 100000 in
theorem n0_X11_proves {M0 : Mem} {τ : TT} {α : AT} {j u r l i : Int32} {v : Int32} (hC : CW τ α M0) (hno : ¬ irg v 0 3) : CK mX11_proves rmX11_proves [.int j, .int u, .int r, .int v, .int l, .int i] M0 (.int (-1)) (tu τ 0 0 0) := by
  refine am_of rfl rfl (ls := [some (.ref 2), some (.int j), some (.int u), some (.int r), some (.int v), some (.int l), some (.int i), none, none, none, none, none, none]) rfl ?_
  suffices HH : ∀ M, (CW τ α M) → (Kr M0 M) → AW mX11_proves rmX11_proves (fun r' M' => r' = (some (.int (-1))) ∧ (fun M2 => Kr M0 M2 ∧ ∃ α2, CW (tu τ 0 0 0) α2 M2) M') 0 [some (.ref 2), some (.int j), some (.int u), some (.int r), some (.int v), some (.int l), some (.int i), none, none, none, none, none, none] [] M 0 0 from HH M0 hC (Kr.rf _)
  intro M hC hR
  refine aw_aload0 0 dX11_proves_0 ?_
  refine aw_ic0 1 dX11_proves_1 ?_
  refine fp_put 2 dX11_proves_2 ckF_RX11_64_11 ckP11_12 hC.xo.1 rfl rfl (fun M hd => ?_)
  replace hR := hR.trans (hd.toWd.kp.kr hC.m1 (fun b q => by omega))
  replace hC := hC.flt hd
  clear hd
  refine aw_aload0 5 dX11_proves_5 ?_
  refine aw_iload4 6 dX11_proves_6 ?_
  refine cr_v1 8 dX11_proves_8 (n_X11_sheetAt hC hno) ckV_RX11_68 cd_X11_sheetAt hC.xo.1 vc11 rfl rfl (Nat.le_of_ble_eq_true rfl) ⟨⟨by decide, by decide⟩, by decide, by decide⟩ rfl ?_
  refine aw_astoreN7 11 dX11_proves_11 rfl ?_
  refine aw_aloadN7 13 dX11_proves_13 ?_
  refine aw_ifnullN 15 25 dX11_proves_15 (by decide) ?_
  refine aw_icm1 25 dX11_proves_25 ?_
  refine aw_iret 26 dX11_proves_26 rfl (Nat.zero_le _) (Nat.zero_le _) ?_
  exact ⟨rfl, hR, α, hC⟩

set_option maxHeartbeats 4000000 in
set_option maxRecDepth 100000 in
theorem n1_X11_proves {M0 : Mem} {τ : TT} {α : AT} {j u r l i : Int32} {k : Nat} (hC : CW τ α M0) (hk : k < 4) (hno2 : ¬ irg j 0 15) : CK mX11_proves rmX11_proves [.int j, .int u, .int r, .int (nI k), .int l, .int i] M0 (.int (-1)) (tu τ 0 0 0) := by
  refine am_of rfl rfl (ls := [some (.ref 2), some (.int j), some (.int u), some (.int r), some (.int (nI k)), some (.int l), some (.int i), none, none, none, none, none, none]) rfl ?_
  suffices HH : ∀ M, (CW τ α M) → (Kr M0 M) → AW mX11_proves rmX11_proves (fun r' M' => r' = (some (.int (-1))) ∧ (fun M2 => Kr M0 M2 ∧ ∃ α2, CW (tu τ 0 0 0) α2 M2) M') 0 [some (.ref 2), some (.int j), some (.int u), some (.int r), some (.int (nI k)), some (.int l), some (.int i), none, none, none, none, none, none] [] M 0 0 from HH M0 hC (Kr.rf _)
  intro M hC hR
  refine aw_aload0 0 dX11_proves_0 ?_
  refine aw_ic0 1 dX11_proves_1 ?_
  refine fp_put 2 dX11_proves_2 ckF_RX11_64_11 ckP11_12 hC.xo.1 rfl rfl (fun M hd => ?_)
  replace hR := hR.trans (hd.toWd.kp.kr hC.m1 (fun b q => by omega))
  replace hC := hC.flt hd
  clear hd
  refine aw_aload0 5 dX11_proves_5 ?_
  refine aw_iload4 6 dX11_proves_6 ?_
  refine cr_v1 8 dX11_proves_8 (c_X11_sheetAt hC hk) ckV_RX11_68 cd_X11_sheetAt hC.xo.1 vc11 rfl rfl (Nat.le_of_ble_eq_true rfl) ⟨⟨by decide, by decide⟩, by decide, by decide⟩ rfl ?_
  refine aw_astore7 11 dX11_proves_11 rfl ?_
  refine aw_aload7 13 dX11_proves_13 ?_
  refine aw_ifnull 15 dX11_proves_15 ?_
  refine aw_iload1 18 dX11_proves_18 ?_
  refine cr_s1 19 dX11_proves_19 (cr_sd c_X11_isPlace) ckS_RX11_229 cd_X11_isPlace rfl (Nat.le_of_ble_eq_true rfl) ⟨⟨by decide, by decide⟩, by decide, by decide⟩ rfl ?_
  refine aw_ifne_b 22 27 dX11_proves_22 (by decide) (fun h22 => ?_) (fun h22 => ?_)
  · exact absurd h22 hno2
  · refine aw_icm1 25 dX11_proves_25 ?_
    refine aw_iret 26 dX11_proves_26 rfl (Nat.zero_le _) (Nat.zero_le _) ?_
    exact ⟨rfl, hR, α, hC⟩

set_option maxHeartbeats 4000000 in
set_option maxRecDepth 100000 in
theorem n2_X11_proves {M0 : Mem} {τ : TT} {α : AT} {k : Nat} {j u r l i : Int32} (hC : CW τ α M0) (hk : k < 4) (hj : irg j 0 15) (hno : ¬ irg u (-1) 99 ∨ ¬ irg l 0 2) : CK mX11_proves rmX11_proves [.int j, .int u, .int r, .int (nI k), .int l, .int i] M0 (.int (-2)) (tu τ 0 0 0) := by
  refine am_of rfl rfl (ls := [some (.ref 2), some (.int j), some (.int u), some (.int r), some (.int (nI k)), some (.int l), some (.int i), none, none, none, none, none, none]) rfl ?_
  suffices HH : ∀ M, (CW τ α M) → (Kr M0 M) → AW mX11_proves rmX11_proves (fun r' M' => r' = (some (.int (-2))) ∧ (fun M2 => Kr M0 M2 ∧ ∃ α2, CW (tu τ 0 0 0) α2 M2) M') 0 [some (.ref 2), some (.int j), some (.int u), some (.int r), some (.int (nI k)), some (.int l), some (.int i), none, none, none, none, none, none] [] M 0 0 from HH M0 hC (Kr.rf _)
  intro M hC hR
  refine aw_aload0 0 dX11_proves_0 ?_
  refine aw_ic0 1 dX11_proves_1 ?_
  refine fp_put 2 dX11_proves_2 ckF_RX11_64_11 ckP11_12 hC.xo.1 rfl rfl (fun M hd => ?_)
  replace hR := hR.trans (hd.toWd.kp.kr hC.m1 (fun b q => by omega))
  replace hC := hC.flt hd
  clear hd
  refine aw_aload0 5 dX11_proves_5 ?_
  refine aw_iload4 6 dX11_proves_6 ?_
  refine cr_v1 8 dX11_proves_8 (c_X11_sheetAt hC hk) ckV_RX11_68 cd_X11_sheetAt hC.xo.1 vc11 rfl rfl (Nat.le_of_ble_eq_true rfl) ⟨⟨by decide, by decide⟩, by decide, by decide⟩ rfl ?_
  refine aw_astore7 11 dX11_proves_11 rfl ?_
  refine aw_aload7 13 dX11_proves_13 ?_
  refine aw_ifnull 15 dX11_proves_15 ?_
  refine aw_iload1 18 dX11_proves_18 ?_
  refine cr_s1 19 dX11_proves_19 (cr_sd c_X11_isPlace) ckS_RX11_229 cd_X11_isPlace rfl (Nat.le_of_ble_eq_true rfl) ⟨⟨by decide, by decide⟩, by decide, by decide⟩ rfl ?_
  refine aw_ifne_b 22 27 dX11_proves_22 (by decide) (fun h22 => ?_) (fun h22 => ?_)
  · refine aw_iload2 27 dX11_proves_27 ?_
    refine aw_icm1 28 dX11_proves_28 ?_
    refine aw_bipush 29 99 dX11_proves_29 (by decide) ?_
    refine cr_s1 31 dX11_proves_31 (cr_sd (c_isInZ (-1) (99) (by decide) (by decide))) ckS_RX11_72 cd_X11_isIn rfl (Nat.le_of_ble_eq_true rfl) ⟨⟨by decide, by decide⟩, by decide, by decide⟩ rfl ?_
    refine aw_ifeq_b 34 45 dX11_proves_34 (by decide) (fun h34 => ?_) (fun h34 => ?_)
    · refine aw_bipush 45 (-2) dX11_proves_45 (by decide) ?_
      refine aw_iret 47 dX11_proves_47 rfl (Nat.zero_le _) (Nat.zero_le _) ?_
      exact ⟨rfl, hR, α, hC⟩
    · refine aw_iload5 37 dX11_proves_37 ?_
      refine cr_s1 39 dX11_proves_39 (cr_sd c_X11_isLane) ckS_RX11_76 cd_X11_isLane rfl (Nat.le_of_ble_eq_true rfl) ⟨⟨by decide, by decide⟩, by decide, by decide⟩ rfl ?_
      refine aw_ifne_b 42 48 dX11_proves_42 (by decide) (fun h42 => ?_) (fun h42 => ?_)
      · exact (hno.elim (fun q => q h34) (fun q => q h42)).elim
      · refine aw_bipush 45 (-2) dX11_proves_45 (by decide) ?_
        refine aw_iret 47 dX11_proves_47 rfl (Nat.zero_le _) (Nat.zero_le _) ?_
        exact ⟨rfl, hR, α, hC⟩
  · exact absurd hj h22

set_option maxHeartbeats 4000000 in
set_option maxRecDepth 100000 in
theorem n3_X11_proves {M0 : Mem} {τ : TT} {α : AT} {k : Nat} {j u r l i : Int32} (hC : CW τ α M0) (hk : k < 4) (hj : irg j 0 15) (hu : irg u (-1) 99) (hl : irg l 0 2) (hb : ¬ bar τ k l i 4 = 0) : CK mX11_proves rmX11_proves [.int j, .int u, .int r, .int (nI k), .int l, .int i] M0 (.int (-10 - bar τ k l i 4)) (tu τ 0 0 (bar τ k l i 4)) := by
  refine am_of rfl rfl (ls := [some (.ref 2), some (.int j), some (.int u), some (.int r), some (.int (nI k)), some (.int l), some (.int i), none, none, none, none, none, none]) rfl ?_
  suffices HH : ∀ M, (CW τ α M) → (Kr M0 M) → AW mX11_proves rmX11_proves (fun r' M' => r' = (some (.int (-10 - bar τ k l i 4))) ∧ (fun M2 => Kr M0 M2 ∧ ∃ α2, CW (tu τ 0 0 (bar τ k l i 4)) α2 M2) M') 0 [some (.ref 2), some (.int j), some (.int u), some (.int r), some (.int (nI k)), some (.int l), some (.int i), none, none, none, none, none, none] [] M 0 0 from HH M0 hC (Kr.rf _)
  intro M hC hR
  refine aw_aload0 0 dX11_proves_0 ?_
  refine aw_ic0 1 dX11_proves_1 ?_
  refine fp_put 2 dX11_proves_2 ckF_RX11_64_11 ckP11_12 hC.xo.1 rfl rfl (fun M hd => ?_)
  replace hR := hR.trans (hd.toWd.kp.kr hC.m1 (fun b q => by omega))
  replace hC := hC.flt hd
  clear hd
  refine aw_aload0 5 dX11_proves_5 ?_
  refine aw_iload4 6 dX11_proves_6 ?_
  refine cr_v1 8 dX11_proves_8 (c_X11_sheetAt hC hk) ckV_RX11_68 cd_X11_sheetAt hC.xo.1 vc11 rfl rfl (Nat.le_of_ble_eq_true rfl) ⟨⟨by decide, by decide⟩, by decide, by decide⟩ rfl ?_
  refine aw_astore7 11 dX11_proves_11 rfl ?_
  refine aw_aload7 13 dX11_proves_13 ?_
  refine aw_ifnull 15 dX11_proves_15 ?_
  refine aw_iload1 18 dX11_proves_18 ?_
  refine cr_s1 19 dX11_proves_19 (cr_sd c_X11_isPlace) ckS_RX11_229 cd_X11_isPlace rfl (Nat.le_of_ble_eq_true rfl) ⟨⟨by decide, by decide⟩, by decide, by decide⟩ rfl ?_
  refine aw_ifne_b 22 27 dX11_proves_22 (by decide) (fun h22 => ?_) (fun h22 => ?_)
  · refine aw_iload2 27 dX11_proves_27 ?_
    refine aw_icm1 28 dX11_proves_28 ?_
    refine aw_bipush 29 99 dX11_proves_29 (by decide) ?_
    refine cr_s1 31 dX11_proves_31 (cr_sd (c_isInZ (-1) (99) (by decide) (by decide))) ckS_RX11_72 cd_X11_isIn rfl (Nat.le_of_ble_eq_true rfl) ⟨⟨by decide, by decide⟩, by decide, by decide⟩ rfl ?_
    refine aw_ifeq_b 34 45 dX11_proves_34 (by decide) (fun h34 => ?_) (fun h34 => ?_)
    · exact absurd hu h34
    · refine aw_iload5 37 dX11_proves_37 ?_
      refine cr_s1 39 dX11_proves_39 (cr_sd c_X11_isLane) ckS_RX11_76 cd_X11_isLane rfl (Nat.le_of_ble_eq_true rfl) ⟨⟨by decide, by decide⟩, by decide, by decide⟩ rfl ?_
      refine aw_ifne_b 42 48 dX11_proves_42 (by decide) (fun h42 => ?_) (fun h42 => ?_)
      · obtain ⟨hr0, lane0, len0, c0, hV, hv1, hv2⟩ := hC.sh k hk
        refine aw_aload7 48 dX11_proves_48 ?_
        refine aw_iload5 50 dX11_proves_50 ?_
        refine aw_iload6 52 dX11_proves_52 ?_
        refine aw_ic4 54 dX11_proves_54 ?_
        refine cr_v1 55 dX11_proves_55 (hC.fault hk) ckV_RX11_80 cd_X5_faultOf hV.1 vc5 rfl rfl (Nat.le_of_ble_eq_true rfl) ⟨⟨by decide, by decide⟩, by decide, by decide⟩ rfl ?_
        refine aw_topi (w := bar τ k l i 4) rfl ?_
        refine aw_istore8 58 dX11_proves_58 rfl ?_
        refine aw_iload8 60 dX11_proves_60 ?_
        refine aw_if_eq 62 72 dX11_proves_62 (by decide) (fun h62 => ?_) (fun h62 => ?_)
        · exact absurd h62 hb
        · refine aw_aload0 65 dX11_proves_65 ?_
          refine aw_iload8 66 dX11_proves_66 ?_
          refine ap_v1 68 dX11_proves_68 (c_X11_failed hC) ckV_RX11_84 cd_X11_failed hC.xo.1 vc11 rfl rfl (Nat.le_of_ble_eq_true rfl) ⟨⟨by decide, by decide⟩, by decide, by decide⟩ rfl (fun M hd => ?_)
          replace hR := hR.trans (hd.toWd.kp.kr hC.m1 (fun b q => by omega))
          replace hC := hC.flt hd
          rw [tu_ch] at hC
          refine aw_iret 71 dX11_proves_71 rfl (Nat.zero_le _) (Nat.zero_le _) ?_
          exact ⟨rfl, hR, α, hC⟩
      · exact absurd hl h42
  · exact absurd hj h22

set_option maxHeartbeats 4000000 in
set_option maxRecDepth 100000 in
theorem c_X11_proves {M0 : Mem} {τ : TT} {α : AT} {k i : Nat} {j u r l : Int32} (hC : CW τ α M0) (hk : k < 4) (hj : irg j 0 15) (hu : irg u (-1) 99) (hl : irg l 0 2) (h0 : ¬ τ 28 k < 0) (hll : τ 29 k = l) (hi : i + 4 ≤ ssz τ k) : CK mX11_proves rmX11_proves [.int j, .int u, .int r, .int (nI k), .int l, .int (nI i)] M0 (.int (if ¬ prG τ (60 * k + i) 4 = 0 ∧ prU τ (60 * k + i) j (u + 1) 4 = r then 1 else 0)) (tu τ 0 0 0) := by
  refine am_of rfl rfl (ls := [some (.ref 2), some (.int j), some (.int u), some (.int r), some (.int (nI k)), some (.int l), some (.int (nI i)), none, none, none, none, none, none]) rfl ?_
  suffices HH : ∀ M, (CW τ α M) → (Kr M0 M) → AW mX11_proves rmX11_proves (fun r' M' => r' = (some (.int (if ¬ prG τ (60 * k + i) 4 = 0 ∧ prU τ (60 * k + i) j (u + 1) 4 = r then 1 else 0))) ∧ (fun M2 => Kr M0 M2 ∧ ∃ α2, CW (tu τ 0 0 0) α2 M2) M') 0 [some (.ref 2), some (.int j), some (.int u), some (.int r), some (.int (nI k)), some (.int l), some (.int (nI i)), none, none, none, none, none, none] [] M 0 0 from HH M0 hC (Kr.rf _)
  intro M hC hR
  refine aw_aload0 0 dX11_proves_0 ?_
  refine aw_ic0 1 dX11_proves_1 ?_
  refine fp_put 2 dX11_proves_2 ckF_RX11_64_11 ckP11_12 hC.xo.1 rfl rfl (fun M hd => ?_)
  replace hR := hR.trans (hd.toWd.kp.kr hC.m1 (fun b q => by omega))
  replace hC := hC.flt hd
  clear hd
  refine aw_aload0 5 dX11_proves_5 ?_
  refine aw_iload4 6 dX11_proves_6 ?_
  refine cr_v1 8 dX11_proves_8 (c_X11_sheetAt hC hk) ckV_RX11_68 cd_X11_sheetAt hC.xo.1 vc11 rfl rfl (Nat.le_of_ble_eq_true rfl) ⟨⟨by decide, by decide⟩, by decide, by decide⟩ rfl ?_
  refine aw_astore7 11 dX11_proves_11 rfl ?_
  refine aw_aload7 13 dX11_proves_13 ?_
  refine aw_ifnull 15 dX11_proves_15 ?_
  refine aw_iload1 18 dX11_proves_18 ?_
  refine cr_s1 19 dX11_proves_19 (cr_sd c_X11_isPlace) ckS_RX11_229 cd_X11_isPlace rfl (Nat.le_of_ble_eq_true rfl) ⟨⟨by decide, by decide⟩, by decide, by decide⟩ rfl ?_
  refine aw_ifne_b 22 27 dX11_proves_22 (by decide) (fun h22 => ?_) (fun h22 => ?_)
  · refine aw_iload2 27 dX11_proves_27 ?_
    refine aw_icm1 28 dX11_proves_28 ?_
    refine aw_bipush 29 99 dX11_proves_29 (by decide) ?_
    refine cr_s1 31 dX11_proves_31 (cr_sd (c_isInZ (-1) (99) (by decide) (by decide))) ckS_RX11_72 cd_X11_isIn rfl (Nat.le_of_ble_eq_true rfl) ⟨⟨by decide, by decide⟩, by decide, by decide⟩ rfl ?_
    refine aw_ifeq_b 34 45 dX11_proves_34 (by decide) (fun h34 => ?_) (fun h34 => ?_)
    · exact absurd hu h34
    · refine aw_iload5 37 dX11_proves_37 ?_
      refine cr_s1 39 dX11_proves_39 (cr_sd c_X11_isLane) ckS_RX11_76 cd_X11_isLane rfl (Nat.le_of_ble_eq_true rfl) ⟨⟨by decide, by decide⟩, by decide, by decide⟩ rfl ?_
      refine aw_ifne_b 42 48 dX11_proves_42 (by decide) (fun h42 => ?_) (fun h42 => ?_)
      · obtain ⟨c0, hV, h60, hc0⟩ := hC.row hk h0
        have h60 : ssz τ k ≤ 60 := h60
        refine aw_aload7 48 dX11_proves_48 ?_
        refine aw_iload5 50 dX11_proves_50 ?_
        refine aw_iload6 52 dX11_proves_52 ?_
        refine aw_ic4 54 dX11_proves_54 ?_
        refine cr_v1 55 dX11_proves_55 (hC.fault hk) ckV_RX11_80 cd_X5_faultOf hV.1 vc5 rfl rfl (Nat.le_of_ble_eq_true rfl) ⟨⟨by decide, by decide⟩, by decide, by decide⟩ rfl ?_
        refine aw_topi (w := 0) (bar_0 (n := 4) hC.ws hk h0 hll hi) ?_
        refine aw_istore8 58 dX11_proves_58 rfl ?_
        refine aw_iload8 60 dX11_proves_60 ?_
        refine aw_if_eqN 62 72 (0) dX11_proves_62 (by decide) rfl (by decide) (fun _ => ?_) (fun h => absurd h (by decide))
        refine aw_iload2 72 dX11_proves_72 ?_
        refine aw_ic1 73 dX11_proves_73 ?_
        refine aw_iadd 74 dX11_proves_74 ?_
        refine aw_istore9 75 dX11_proves_75 rfl ?_
        refine aw_ic0 77 dX11_proves_77 ?_
        refine aw_istore10 78 dX11_proves_78 rfl ?_
        have LP80 : ∀ (dd : Nat) (x : Nat) (b : Int32) (z11 z12 : Option Value), 4 - x = dd → (x ≤ 4) → (prG τ (60 * k + i) x = 1) → (b = prU τ (60 * k + i) j (u + 1) x) → AW mX11_proves rmX11_proves (fun r' M' => r' = (some (.int (if ¬ prG τ (60 * k + i) 4 = 0 ∧ prU τ (60 * k + i) j (u + 1) 4 = r then 1 else 0))) ∧ (fun M2 => Kr M0 M2 ∧ ∃ α2, CW (tu τ 0 0 0) α2 M2) M') 80 [some (.ref 2), some (.int j), some (.int u), some (.int r), some (.int (nI k)), some (.int l), some (.int (nI i)), some (.ref (17 + 2 * k)), some (.int 0), some (.int b), some (.int (nI x)), z11, z12] [] M 0 0 := by
          intro dd
          induction dd using Nat.strongRecOn with
          | _ dd ih80 =>
            intro x b z11 z12 hdd hx hg hb
            refine aw_iload10 80 dX11_proves_80 ?_
            refine aw_ic4 82 dX11_proves_82 ?_
            refine aw_icmp_geN 83 158 (x) (4) dX11_proves_83 (by decide) rfl rfl (by omega) (by omega) (fun h83 => ?_) (fun h83 => ?_)
            · have he : x = 4 := by omega
              subst he
              refine aw_iload9 158 dX11_proves_158 ?_
              refine aw_iload3 160 dX11_proves_160 ?_
              refine aw_icmp_ne 161 168 dX11_proves_161 (by decide) (fun h161 => ?_) (fun h161 => ?_)
              · rw [if_neg (fun q => h161 (hb.trans q.2))]
                refine aw_ic0 168 dX11_proves_168 ?_
                refine aw_iret 169 dX11_proves_169 rfl (Nat.zero_le _) (Nat.zero_le _) ?_
                exact ⟨rfl, hR, α, hC⟩
              · rw [if_pos ⟨by rw [hg]; decide, hb.symm.trans h161⟩]
                refine aw_ic1 164 dX11_proves_164 ?_
                refine aw_goto 165 169 dX11_proves_165 (by decide) ?_
                refine aw_iret 169 dX11_proves_169 rfl (Nat.zero_le _) (Nat.zero_le _) ?_
                exact ⟨rfl, hR, α, hC⟩
            · refine aw_aload7 86 dX11_proves_86 ?_
              refine aw_iload6 88 dX11_proves_88 ?_
              refine aw_iload10 90 dX11_proves_90 ?_
              refine aw_iaddN 92 (i) (x) dX11_proves_92 rfl rfl ?_
              refine cr_v1 93 dX11_proves_93 (c_X5_at hV h60 (j := i + x) (by show i + x < ssz τ k; omega)) ckV_RX11_236 cd_X5_at hV.1 vc5 rfl rfl (Nat.le_of_ble_eq_true rfl) ⟨⟨by decide, by decide⟩, by decide, by decide⟩ rfl ?_
              refine aw_topi (w := τ 30 ((60 * k + i) + x)) ((hc0 (i + x) (by show i + x < ssz τ k; omega)).trans (by show τ 30 (60 * k + (i + x)) = _; congr 1; omega)) ?_
              refine aw_istore11 96 dX11_proves_96 rfl ?_
              refine aw_iload11 98 dX11_proves_98 ?_
              refine aw_ic0 100 dX11_proves_100 ?_
              refine aw_sipush 101 9972 dX11_proves_101 (by decide) ?_
              refine cr_s1 104 dX11_proves_104 (cr_sd (c_isInZ (0) (9972) (by decide) (by decide))) ckS_RX11_72 cd_X11_isIn rfl (Nat.le_of_ble_eq_true rfl) ⟨⟨by decide, by decide⟩, by decide, by decide⟩ rfl ?_
              refine aw_ifne_b 107 112 dX11_proves_107 (by decide) (fun h107 => ?_) (fun h107 => ?_)
              · have hg1 : prG τ (60 * k + i) (x + 1) = 1 := by rw [prG_s, if_pos ⟨by rw [hg]; decide, h107⟩]
                have hus := prU_s (τ := τ) (b := (60 * k + i)) (x := x) (pl := j) (u := u + 1)
                rw [if_neg (by rw [hg1]; decide)] at hus
                refine aw_iload1 112 dX11_proves_112 ?_
                refine aw_iload10 113 dX11_proves_113 ?_
                refine aw_ishr 115 dX11_proves_115 ?_
                refine aw_ic1 116 dX11_proves_116 ?_
                refine aw_iand 117 dX11_proves_117 ?_
                refine aw_if_ne 118 125 dX11_proves_118 (by decide) (fun h118 => ?_) (fun h118 => ?_)
                · have hbit : hbt j x := (and1 _).resolve_left h118
                  refine aw_ic0 125 dX11_proves_125 ?_
                  refine aw_istore12 126 dX11_proves_126 rfl ?_
                  refine aw_iload12 128 dX11_proves_128 ?_
                  refine aw_if_eqN 130 143 (0) dX11_proves_130 (by decide) rfl (by decide) (fun _ => ?_) (fun h => absurd h (by decide))
                  refine aw_iload11 143 dX11_proves_143 ?_
                  refine aw_iload9 145 dX11_proves_145 ?_
                  refine cr_s1 147 dX11_proves_147 (cr_sd c_X9_above) ckS_RX11_239 cd_X9_above rfl (Nat.le_of_ble_eq_true rfl) ⟨⟨by decide, by decide⟩, by decide, by decide⟩ rfl ?_
                  refine aw_istore9 150 dX11_proves_150 rfl ?_
                  refine aw_iinc10 152 (nI (x + 1)) dX11_proves_152 (nI_1 _) rfl ?_
                  refine aw_goto 155 80 dX11_proves_155 (by decide) ?_
                  exact ih80 _ (by omega) (x + 1) _ _ _ rfl (by omega) hg1 (by rw [hus]; first | (rw [if_pos hbit, hb]; done) | (rw [if_neg hbit, hb]; done))
                · have hbit : ¬ hbt j x := fun q => absurd (h118.symm.trans q) (by decide)
                  refine aw_ic1 121 dX11_proves_121 ?_
                  refine aw_goto 122 126 dX11_proves_122 (by decide) ?_
                  refine aw_istore12 126 dX11_proves_126 rfl ?_
                  refine aw_iload12 128 dX11_proves_128 ?_
                  refine aw_if_eqN 130 143 (1) dX11_proves_130 (by decide) rfl (by decide) (fun h => absurd h (by decide)) (fun _ => ?_)
                  refine aw_iload9 133 dX11_proves_133 ?_
                  refine aw_iload11 135 dX11_proves_135 ?_
                  refine cr_s1 137 dX11_proves_137 (cr_sd c_X9_above) ckS_RX11_239 cd_X9_above rfl (Nat.le_of_ble_eq_true rfl) ⟨⟨by decide, by decide⟩, by decide, by decide⟩ rfl ?_
                  refine aw_goto 140 150 dX11_proves_140 (by decide) ?_
                  refine aw_istore9 150 dX11_proves_150 rfl ?_
                  refine aw_iinc10 152 (nI (x + 1)) dX11_proves_152 (nI_1 _) rfl ?_
                  refine aw_goto 155 80 dX11_proves_155 (by decide) ?_
                  exact ih80 _ (by omega) (x + 1) _ _ _ rfl (by omega) hg1 (by rw [hus]; first | (rw [if_pos hbit, hb]; done) | (rw [if_neg hbit, hb]; done))
              · have hg1 : prG τ (60 * k + i) (x + 1) = 0 := by rw [prG_s, if_neg (fun q => h107 q.2)]
                refine aw_ic0 110 dX11_proves_110 ?_
                refine aw_iret 111 dX11_proves_111 rfl (Nat.zero_le _) (Nat.zero_le _) ?_
                refine ⟨?_, hR, α, hC⟩
                rw [if_neg (fun q => q.1 (prG_0 hg1 4 (by omega)))]
        exact LP80 _ 0 _ none none rfl (by omega) rfl rfl
      · exact absurd hl h42
  · exact absurd hj h22

