/-! the class: plain calls (gen/clsA.py) -/
theorem CW.ln {τ : TT} {α : AT} {M : Mem} {p : Nat} (h : CW τ α M) (hp : p < nP τ) (hno : ¬ τ 16 p < 0) : dgt (τ 17) p < nL τ ∧ nI (dgt (τ 17) p) = τ 17 p ∧ (¬ τ 16 p = 0 → dgt (τ 20) p < p ∧ nI (dgt (τ 20) p) = τ 20 p) ∧ ∃ h, h < 1000 ∧ τ 18 p = nI h := by
  rcases h.wn p hp with q | q
  · exact absurd (by rw [q]; decide) hno
  · obtain ⟨-, ⟨l, l1, l2⟩, h3, h4, -⟩ := q
    have h6 := h.wl.1
    have h12 := h.wp.1.1
    refine ⟨by rw [dgt_n l2 (by omega)]; exact l1, by rw [dgt_n l2 (by omega)]; exact l2.symm, fun z => ?_, h3⟩
    obtain ⟨f, f1, f2⟩ := h4 z
    rw [dgt_n f2 (by omega)]
    exact ⟨f1, f2.symm⟩
theorem tu_ch {τ : TT} {i k : Nat} {u v : Int32} : tu (tu τ i k u) i k v = tu τ i k v := tu_tu

def rmX11_trace : Room := { frames := 0, cells := 0, slots := 0, locals := 0 }
set_option maxHeartbeats 4000000 in
set_option maxRecDepth 100000 in
theorem c_X11_trace {M0 : Mem} {τ : TT} {α : AT}  (hC : CW τ α M0) : CK mX11_trace rmX11_trace [] M0 (.int (τ 32 0)) (τ) := by
  refine am_of rfl rfl (ls := [some (.ref 2)]) rfl ?_
  suffices HH : ∀ M, (CW τ α M) → (Kr M0 M) → AW mX11_trace rmX11_trace (fun r' M' => r' = (some (.int (τ 32 0))) ∧ (fun M2 => Kr M0 M2 ∧ ∃ α2, CW (τ) α2 M2) M') 0 [some (.ref 2)] [] M 0 0 from HH M0 hC (Kr.rf _)
  intro M hC hR
  refine aw_aload0 0 dX11_trace_0 ?_
  refine aw_get 1 dX11_trace_1 ckF_RX11_59_11 hC.xo.1 hC.xo.2.2.2.2.2.2.2.2.1 ?_
  refine aw_get 4 dX11_trace_4 ckF_RX11_318_8 hC.tv.1 hC.tv.2 ?_
  refine aw_iret 7 dX11_trace_7 rfl (Nat.zero_le _) (Nat.zero_le _) ?_
  exact ⟨rfl, hR, α, hC⟩

def rmX11_fault : Room := { frames := 0, cells := 0, slots := 0, locals := 0 }
set_option maxHeartbeats 4000000 in
set_option maxRecDepth 100000 in
theorem c_X11_fault {M0 : Mem} {τ : TT} {α : AT}  (hC : CW τ α M0) : CK mX11_fault rmX11_fault [] M0 (.int (τ 0 0)) (τ) := by
  refine am_of rfl rfl (ls := [some (.ref 2)]) rfl ?_
  suffices HH : ∀ M, (CW τ α M) → (Kr M0 M) → AW mX11_fault rmX11_fault (fun r' M' => r' = (some (.int (τ 0 0))) ∧ (fun M2 => Kr M0 M2 ∧ ∃ α2, CW (τ) α2 M2) M') 0 [some (.ref 2)] [] M 0 0 from HH M0 hC (Kr.rf _)
  intro M hC hR
  refine aw_aload0 0 dX11_fault_0 ?_
  refine aw_get 1 dX11_fault_1 ckF_RX11_64_11 hC.xo.1 hC.xo.2.2.2.2.2.2.2.2.2.2.2.2.2 ?_
  refine aw_iret 4 dX11_fault_4 rfl (Nat.zero_le _) (Nat.zero_le _) ?_
  exact ⟨rfl, hR, α, hC⟩

def rmX11_within : Room := { frames := 1, cells := 0, slots := 0, locals := 22 }
set_option maxHeartbeats 4000000 in
set_option maxRecDepth 100000 in
theorem c_X11_within {M0 : Mem} {τ : TT} {α : AT} {v : Int32} (hC : CW τ α M0) : CK mX11_within rmX11_within [.int v] M0 (.int (if irg v 0 20 then τ 23 0 else -2)) (if irg v 0 20 then tu τ 23 0 v else τ) := by
  refine am_of rfl rfl (ls := [some (.ref 2), some (.int v), none]) rfl ?_
  suffices HH : ∀ M, (CW τ α M) → (Kr M0 M) → AW mX11_within rmX11_within (fun r' M' => r' = (some (.int (if irg v 0 20 then τ 23 0 else -2))) ∧ (fun M2 => Kr M0 M2 ∧ ∃ α2, CW (if irg v 0 20 then tu τ 23 0 v else τ) α2 M2) M') 0 [some (.ref 2), some (.int v), none] [] M 0 0 from HH M0 hC (Kr.rf _)
  intro M hC hR
  refine aw_iload1 0 dX11_within_0 ?_
  refine aw_ic0 1 dX11_within_1 ?_
  refine aw_bipush 2 20 dX11_within_2 (by decide) ?_
  refine cr_s1 4 dX11_within_4 (cr_sd (c_isInZ (0) (20) (by decide) (by decide))) ckS_RX11_72 cd_X11_isIn rfl (Nat.le_of_ble_eq_true rfl) ⟨⟨by decide, by decide⟩, by decide, by decide⟩ rfl ?_
  refine aw_ifne_b 7 13 dX11_within_7 (by decide) (fun h7 => ?_) (fun h7 => ?_)
  · rw [if_pos h7, if_pos h7]
    refine aw_aload0 13 dX11_within_13 ?_
    refine aw_get 14 dX11_within_14 ckF_RX11_222_11 hC.xo.1 hC.xo.2.2.2.2.2.2.2.2.2.2.2.2.1 ?_
    refine aw_istore2 17 dX11_within_17 rfl ?_
    refine aw_aload0 18 dX11_within_18 ?_
    refine aw_iload1 19 dX11_within_19 ?_
    refine fp_put 20 dX11_within_20 ckF_RX11_222_11 ckP11_11 hC.xo.1 rfl rfl (fun M hd => ?_)
    replace hR := hR.trans (hd.toWd.kp.kr hC.m1 (fun b q => by omega))
    replace hC := hC.win hd h7
    refine aw_iload2 23 dX11_within_23 ?_
    refine aw_iret 24 dX11_within_24 rfl (Nat.zero_le _) (Nat.zero_le _) ?_
    exact ⟨rfl, hR, α, hC⟩
  · rw [if_neg h7, if_neg h7]
    refine aw_bipush 10 (-2) dX11_within_10 (by decide) ?_
    refine aw_iret 12 dX11_within_12 rfl (Nat.zero_le _) (Nat.zero_le _) ?_
    exact ⟨rfl, hR, α, hC⟩

def rmX11_many : Room := { frames := 1, cells := 0, slots := 0, locals := 22 }
set_option maxHeartbeats 4000000 in
set_option maxRecDepth 100000 in
theorem c_X11_many {M0 : Mem} {τ : TT} {α : AT} {w : Int32} (hC : CW τ α M0) : CK mX11_many rmX11_many [.int w] M0 (.int (sMn τ w)) (τ) := by
  refine am_of rfl rfl (ls := [some (.ref 2), some (.int w)]) rfl ?_
  suffices HH : ∀ M, (CW τ α M) → (Kr M0 M) → AW mX11_many rmX11_many (fun r' M' => r' = (some (.int (sMn τ w))) ∧ (fun M2 => Kr M0 M2 ∧ ∃ α2, CW (τ) α2 M2) M') 0 [some (.ref 2), some (.int w)] [] M 0 0 from HH M0 hC (Kr.rf _)
  intro M hC hR
  refine aw_iload1 0 dX11_many_0 ?_
  by_cases hs0 : w = 0
  · subst hs0
    refine aw_tabIn 1 32 dX11_many_1 (by decide) (by decide) rfl (by decide) ?_
    refine aw_aload0 32 dX11_many_32 ?_
    refine aw_get 33 dX11_many_33 ckF_RX11_92_11 hC.xo.1 (hC.xo.2.2.2.2.2.2.2.2.2.1.trans (congrArg Value.int hC.wp.1.2)) ?_
    refine aw_iret 36 dX11_many_36 rfl (Nat.zero_le _) (Nat.zero_le _) ?_
    refine ⟨?_, hR, α, hC⟩
    unfold sMn
    first
      | (rw [if_pos rfl]; done)
      | (rw [if_neg (by decide), if_pos rfl, ← hC.wl.2]; done)
      | (rw [if_neg (by decide), if_neg (by decide), if_pos rfl]; done)
      | (rw [if_neg (by decide), if_neg (by decide), if_neg (by decide), if_pos rfl, ← hC.wk.1.2]; done)
      | (rw [if_neg hs0, if_neg hs1, if_neg hs2, if_neg hs3]; done)
  by_cases hs1 : w = 1
  · subst hs1
    refine aw_tabIn 1 37 dX11_many_1 (by decide) (by decide) rfl (by decide) ?_
    refine aw_aload0 37 dX11_many_37 ?_
    refine aw_get 38 dX11_many_38 ckF_RX11_131_11 hC.xo.1 (hC.xo.2.2.2.2.2.2.2.2.2.2.1.trans (congrArg Value.int hC.wl.2)) ?_
    refine aw_iret 41 dX11_many_41 rfl (Nat.zero_le _) (Nat.zero_le _) ?_
    refine ⟨?_, hR, α, hC⟩
    unfold sMn
    first
      | (rw [if_pos rfl]; done)
      | (rw [if_neg (by decide), if_pos rfl, ← hC.wl.2]; done)
      | (rw [if_neg (by decide), if_neg (by decide), if_pos rfl]; done)
      | (rw [if_neg (by decide), if_neg (by decide), if_neg (by decide), if_pos rfl, ← hC.wk.1.2]; done)
      | (rw [if_neg hs0, if_neg hs1, if_neg hs2, if_neg hs3]; done)
  by_cases hs2 : w = 2
  · subst hs2
    refine aw_tabIn 1 42 dX11_many_1 (by decide) (by decide) rfl (by decide) ?_
    refine aw_aload0 42 dX11_many_42 ?_
    refine cr_v1 43 dX11_many_43 (c_X11_countPapers hC) ckV_RX11_321 cd_X11_countPapers hC.xo.1 vc11 rfl rfl (Nat.le_of_ble_eq_true rfl) ⟨⟨by decide, by decide⟩, by decide, by decide⟩ rfl ?_
    refine aw_iret 46 dX11_many_46 rfl (Nat.zero_le _) (Nat.zero_le _) ?_
    refine ⟨?_, hR, α, hC⟩
    unfold sMn
    first
      | (rw [if_pos rfl]; done)
      | (rw [if_neg (by decide), if_pos rfl, ← hC.wl.2]; done)
      | (rw [if_neg (by decide), if_neg (by decide), if_pos rfl]; done)
      | (rw [if_neg (by decide), if_neg (by decide), if_neg (by decide), if_pos rfl, ← hC.wk.1.2]; done)
      | (rw [if_neg hs0, if_neg hs1, if_neg hs2, if_neg hs3]; done)
  by_cases hs3 : w = 3
  · subst hs3
    refine aw_tabIn 1 47 dX11_many_1 (by decide) (by decide) rfl (by decide) ?_
    refine aw_aload0 47 dX11_many_47 ?_
    refine aw_get 48 dX11_many_48 ckF_RX11_271_11 hC.xo.1 (hC.xo.2.2.2.2.2.2.2.2.2.2.2.1.trans (congrArg Value.int hC.wk.1.2)) ?_
    refine aw_iret 51 dX11_many_51 rfl (Nat.zero_le _) (Nat.zero_le _) ?_
    refine ⟨?_, hR, α, hC⟩
    unfold sMn
    first
      | (rw [if_pos rfl]; done)
      | (rw [if_neg (by decide), if_pos rfl, ← hC.wl.2]; done)
      | (rw [if_neg (by decide), if_neg (by decide), if_pos rfl]; done)
      | (rw [if_neg (by decide), if_neg (by decide), if_neg (by decide), if_pos rfl, ← hC.wk.1.2]; done)
      | (rw [if_neg hs0, if_neg hs1, if_neg hs2, if_neg hs3]; done)
  have hso : w.toInt < 0 ∨ 3 < w.toInt := by
    have q0 := lv_neT (a := 0) hs0 (by decide)
    have q1 := lv_neT (a := 1) hs1 (by decide)
    have q2 := lv_neT (a := 2) hs2 (by decide)
    have q3 := lv_neT (a := 3) hs3 (by decide)
    omega
  refine aw_tabOut 1 52 dX11_many_1 hso (by decide) ?_
  refine aw_bipush 52 (-2) dX11_many_52 (by decide) ?_
  refine aw_iret 54 dX11_many_54 rfl (Nat.zero_le _) (Nat.zero_le _) ?_
  refine ⟨?_, hR, α, hC⟩
  unfold sMn
  first
    | (rw [if_pos rfl]; done)
    | (rw [if_neg (by decide), if_pos rfl, ← hC.wl.2]; done)
    | (rw [if_neg (by decide), if_neg (by decide), if_pos rfl]; done)
    | (rw [if_neg (by decide), if_neg (by decide), if_neg (by decide), if_pos rfl, ← hC.wk.1.2]; done)
    | (rw [if_neg hs0, if_neg hs1, if_neg hs2, if_neg hs3]; done)

def rmX11_ofPicture : Room := { frames := 3, cells := 0, slots := 0, locals := 63 }
set_option maxHeartbeats 4000000 in
set_option maxRecDepth 100000 in
theorem n_X11_ofPicture {M0 : Mem} {τ : TT} {α : AT} {v v2 : Int32} (hC : CW τ α M0) (hno : ¬ ir v (nP τ)) : CK mX11_ofPicture rmX11_ofPicture [.int v, .int v2] M0 (.int (-1)) (τ) := by
  refine am_of rfl rfl (ls := [some (.ref 2), some (.int v), some (.int v2), none]) rfl ?_
  suffices HH : ∀ M, (CW τ α M) → (Kr M0 M) → AW mX11_ofPicture rmX11_ofPicture (fun r' M' => r' = (some (.int (-1))) ∧ (fun M2 => Kr M0 M2 ∧ ∃ α2, CW (τ) α2 M2) M') 0 [some (.ref 2), some (.int v), some (.int v2), none] [] M 0 0 from HH M0 hC (Kr.rf _)
  intro M hC hR
  refine aw_aload0 0 dX11_ofPicture_0 ?_
  refine aw_iload1 1 dX11_ofPicture_1 ?_
  refine cr_v1 2 dX11_ofPicture_2 (n_X11_pictureAt hC hno) ckV_RX11_106 cd_X11_pictureAt hC.xo.1 vc11 rfl rfl (Nat.le_of_ble_eq_true rfl) ⟨⟨by decide, by decide⟩, by decide, by decide⟩ rfl ?_
  refine aw_astoreN3 5 dX11_ofPicture_5 rfl ?_
  refine aw_aloadN3 6 dX11_ofPicture_6 ?_
  refine aw_ifnonnullN 7 dX11_ofPicture_7 ?_
  refine aw_icm1 10 dX11_ofPicture_10 ?_
  refine aw_iret 11 dX11_ofPicture_11 rfl (Nat.zero_le _) (Nat.zero_le _) ?_
  exact ⟨rfl, hR, α, hC⟩

set_option maxHeartbeats 4000000 in
set_option maxRecDepth 100000 in
theorem c0_X11_ofPicture {M0 : Mem} {τ : TT} {α : AT} {p : Nat} (hC : CW τ α M0) (hp : p < nP τ) : CK mX11_ofPicture rmX11_ofPicture [.int (nI p), .int 0] M0 (.int (τ 2 p)) (τ) := by
  refine am_of rfl rfl (ls := [some (.ref 2), some (.int (nI p)), some (.int 0), none]) rfl ?_
  suffices HH : ∀ M, (CW τ α M) → (Kr M0 M) → AW mX11_ofPicture rmX11_ofPicture (fun r' M' => r' = (some (.int (τ 2 p))) ∧ (fun M2 => Kr M0 M2 ∧ ∃ α2, CW (τ) α2 M2) M') 0 [some (.ref 2), some (.int (nI p)), some (.int 0), none] [] M 0 0 from HH M0 hC (Kr.rf _)
  intro M hC hR
  refine aw_aload0 0 dX11_ofPicture_0 ?_
  refine aw_iload1 1 dX11_ofPicture_1 ?_
  refine cr_v1 2 dX11_ofPicture_2 (c_X11_pictureAt hC hp) ckV_RX11_106 cd_X11_pictureAt hC.xo.1 vc11 rfl rfl (Nat.le_of_ble_eq_true rfl) ⟨⟨by decide, by decide⟩, by decide, by decide⟩ rfl ?_
  refine aw_astore3 5 dX11_ofPicture_5 rfl ?_
  refine aw_aload3 6 dX11_ofPicture_6 ?_
  refine aw_ifnonnull 7 12 dX11_ofPicture_7 (by decide) ?_
  refine aw_iload2 12 dX11_ofPicture_12 ?_
  refine aw_tabIn 13 44 dX11_ofPicture_13 (by decide) (by decide) rfl (by decide) ?_
  refine aw_aload3 44 dX11_ofPicture_44 ?_
  refine aw_get 45 dX11_ofPicture_45 ckF_RX11_110_3 (hC.pc p hp).2.2.2.1 (hC.pc p hp).2.2.2.2.2.2.1 ?_
  refine aw_iret 48 dX11_ofPicture_48 rfl (Nat.zero_le _) (Nat.zero_le _) ?_
  exact ⟨rfl, hR, α, hC⟩

set_option maxHeartbeats 4000000 in
set_option maxRecDepth 100000 in
theorem c1_X11_ofPicture {M0 : Mem} {τ : TT} {α : AT} {p : Nat} (hC : CW τ α M0) (hp : p < nP τ) : CK mX11_ofPicture rmX11_ofPicture [.int (nI p), .int 1] M0 (.int (τ 3 p)) (τ) := by
  refine am_of rfl rfl (ls := [some (.ref 2), some (.int (nI p)), some (.int 1), none]) rfl ?_
  suffices HH : ∀ M, (CW τ α M) → (Kr M0 M) → AW mX11_ofPicture rmX11_ofPicture (fun r' M' => r' = (some (.int (τ 3 p))) ∧ (fun M2 => Kr M0 M2 ∧ ∃ α2, CW (τ) α2 M2) M') 0 [some (.ref 2), some (.int (nI p)), some (.int 1), none] [] M 0 0 from HH M0 hC (Kr.rf _)
  intro M hC hR
  refine aw_aload0 0 dX11_ofPicture_0 ?_
  refine aw_iload1 1 dX11_ofPicture_1 ?_
  refine cr_v1 2 dX11_ofPicture_2 (c_X11_pictureAt hC hp) ckV_RX11_106 cd_X11_pictureAt hC.xo.1 vc11 rfl rfl (Nat.le_of_ble_eq_true rfl) ⟨⟨by decide, by decide⟩, by decide, by decide⟩ rfl ?_
  refine aw_astore3 5 dX11_ofPicture_5 rfl ?_
  refine aw_aload3 6 dX11_ofPicture_6 ?_
  refine aw_ifnonnull 7 12 dX11_ofPicture_7 (by decide) ?_
  refine aw_iload2 12 dX11_ofPicture_12 ?_
  refine aw_tabIn 13 49 dX11_ofPicture_13 (by decide) (by decide) rfl (by decide) ?_
  refine aw_aload3 49 dX11_ofPicture_49 ?_
  refine aw_get 50 dX11_ofPicture_50 ckF_RX11_113_3 (hC.pc p hp).2.2.2.1 (hC.pc p hp).2.2.2.2.2.2.2.1 ?_
  refine aw_iret 53 dX11_ofPicture_53 rfl (Nat.zero_le _) (Nat.zero_le _) ?_
  exact ⟨rfl, hR, α, hC⟩

set_option maxHeartbeats 4000000 in
set_option maxRecDepth 100000 in
theorem c2_X11_ofPicture {M0 : Mem} {τ : TT} {α : AT} {p : Nat} (hC : CW τ α M0) (hp : p < nP τ) : CK mX11_ofPicture rmX11_ofPicture [.int (nI p), .int 2] M0 (.int (rsum τ p (mny τ p))) (τ) := by
  refine am_of rfl rfl (ls := [some (.ref 2), some (.int (nI p)), some (.int 2), none]) rfl ?_
  suffices HH : ∀ M, (CW τ α M) → (Kr M0 M) → AW mX11_ofPicture rmX11_ofPicture (fun r' M' => r' = (some (.int (rsum τ p (mny τ p)))) ∧ (fun M2 => Kr M0 M2 ∧ ∃ α2, CW (τ) α2 M2) M') 0 [some (.ref 2), some (.int (nI p)), some (.int 2), none] [] M 0 0 from HH M0 hC (Kr.rf _)
  intro M hC hR
  refine aw_aload0 0 dX11_ofPicture_0 ?_
  refine aw_iload1 1 dX11_ofPicture_1 ?_
  refine cr_v1 2 dX11_ofPicture_2 (c_X11_pictureAt hC hp) ckV_RX11_106 cd_X11_pictureAt hC.xo.1 vc11 rfl rfl (Nat.le_of_ble_eq_true rfl) ⟨⟨by decide, by decide⟩, by decide, by decide⟩ rfl ?_
  refine aw_astore3 5 dX11_ofPicture_5 rfl ?_
  refine aw_aload3 6 dX11_ofPicture_6 ?_
  refine aw_ifnonnull 7 12 dX11_ofPicture_7 (by decide) ?_
  refine aw_iload2 12 dX11_ofPicture_12 ?_
  refine aw_tabIn 13 54 dX11_ofPicture_13 (by decide) (by decide) rfl (by decide) ?_
  refine aw_aload3 54 dX11_ofPicture_54 ?_
  refine cr_v1 55 dX11_ofPicture_55 (c_X3_sum (hC.pc p hp).2.2.2) ckV_RX11_116 cd_X3_sum (hC.pc p hp).2.2.2.1 vc3 rfl rfl (Nat.le_of_ble_eq_true rfl) ⟨⟨by decide, by decide⟩, by decide, by decide⟩ rfl ?_
  rw [sum_eq hC.wp hC.sq hp]
  refine aw_iret 58 dX11_ofPicture_58 rfl (Nat.zero_le _) (Nat.zero_le _) ?_
  exact ⟨rfl, hR, α, hC⟩

set_option maxHeartbeats 4000000 in
set_option maxRecDepth 100000 in
theorem c3_X11_ofPicture {M0 : Mem} {τ : TT} {α : AT} {p : Nat} (hC : CW τ α M0) (hp : p < nP τ) : CK mX11_ofPicture rmX11_ofPicture [.int (nI p), .int 3] M0 (.int (TN (leaf τ p) 1)) (τ) := by
  refine am_of rfl rfl (ls := [some (.ref 2), some (.int (nI p)), some (.int 3), none]) rfl ?_
  suffices HH : ∀ M, (CW τ α M) → (Kr M0 M) → AW mX11_ofPicture rmX11_ofPicture (fun r' M' => r' = (some (.int (TN (leaf τ p) 1))) ∧ (fun M2 => Kr M0 M2 ∧ ∃ α2, CW (τ) α2 M2) M') 0 [some (.ref 2), some (.int (nI p)), some (.int 3), none] [] M 0 0 from HH M0 hC (Kr.rf _)
  intro M hC hR
  refine aw_aload0 0 dX11_ofPicture_0 ?_
  refine aw_iload1 1 dX11_ofPicture_1 ?_
  refine cr_v1 2 dX11_ofPicture_2 (c_X11_pictureAt hC hp) ckV_RX11_106 cd_X11_pictureAt hC.xo.1 vc11 rfl rfl (Nat.le_of_ble_eq_true rfl) ⟨⟨by decide, by decide⟩, by decide, by decide⟩ rfl ?_
  refine aw_astore3 5 dX11_ofPicture_5 rfl ?_
  refine aw_aload3 6 dX11_ofPicture_6 ?_
  refine aw_ifnonnull 7 12 dX11_ofPicture_7 (by decide) ?_
  refine aw_iload2 12 dX11_ofPicture_12 ?_
  refine aw_tabIn 13 59 dX11_ofPicture_13 (by decide) (by decide) rfl (by decide) ?_
  refine aw_aload0 59 dX11_ofPicture_59 ?_
  refine aw_get 60 dX11_ofPicture_60 ckF_RX11_38_11 hC.xo.1 hC.xo.2.2.2.2.2.1 ?_
  refine aw_aload3 63 dX11_ofPicture_63 ?_
  refine ap_v1 64 dX11_ofPicture_64 (c_X9_rootOf (hC.pc p hp).2.2.2 hC.sx.1 (by have := (hC.pc p hp).1; omega)) ckV_RX11_120 cd_X9_rootOf hC.sx.1.1 vc9 rfl rfl (Nat.le_of_ble_eq_true rfl) ⟨⟨by decide, by decide⟩, by decide, by decide⟩ rfl (fun M hq => ?_)
  rw [leaf_br]
  replace hR := hR.trans (hq.1.kp.kr hC.m1 (fun b q => by omega))
  replace hC := hC.wd8 hq.1
  refine aw_iret 67 dX11_ofPicture_67 rfl (Nat.zero_le _) (Nat.zero_le _) ?_
  exact ⟨rfl, hR, α, hC⟩

set_option maxHeartbeats 4000000 in
set_option maxRecDepth 100000 in
theorem ck_X11_ofPicture {M0 : Mem} {τ : TT} {α : AT} {p : Nat} {k : Nat} (hC : CW τ α M0) (hp : p < nP τ) (hk : k < 16) : CK mX11_ofPicture rmX11_ofPicture [.int (nI p), .int (nI (10 + k))] M0 (.int (if thr τ p k then τ 4 (16 * p + k) else -2)) (τ) := by
  refine am_of rfl rfl (ls := [some (.ref 2), some (.int (nI p)), some (.int (nI (10 + k))), none]) rfl ?_
  suffices HH : ∀ M, (CW τ α M) → (Kr M0 M) → AW mX11_ofPicture rmX11_ofPicture (fun r' M' => r' = (some (.int (if thr τ p k then τ 4 (16 * p + k) else -2))) ∧ (fun M2 => Kr M0 M2 ∧ ∃ α2, CW (τ) α2 M2) M') 0 [some (.ref 2), some (.int (nI p)), some (.int (nI (10 + k))), none] [] M 0 0 from HH M0 hC (Kr.rf _)
  intro M hC hR
  refine aw_aload0 0 dX11_ofPicture_0 ?_
  refine aw_iload1 1 dX11_ofPicture_1 ?_
  refine cr_v1 2 dX11_ofPicture_2 (c_X11_pictureAt hC hp) ckV_RX11_106 cd_X11_pictureAt hC.xo.1 vc11 rfl rfl (Nat.le_of_ble_eq_true rfl) ⟨⟨by decide, by decide⟩, by decide, by decide⟩ rfl ?_
  refine aw_astore3 5 dX11_ofPicture_5 rfl ?_
  refine aw_aload3 6 dX11_ofPicture_6 ?_
  refine aw_ifnonnull 7 12 dX11_ofPicture_7 (by decide) ?_
  refine aw_iload2 12 dX11_ofPicture_12 ?_
  refine aw_tabOut 13 68 dX11_ofPicture_13 (Or.inr (by rw [nI_toInt (by omega)]; omega)) (by decide) ?_
  refine aw_iload2 68 dX11_ofPicture_68 ?_
  refine aw_bipush 69 10 dX11_ofPicture_69 (by decide) ?_
  refine aw_icmp_ltN 71 85 (10 + k) (10) dX11_ofPicture_71 (by decide) rfl rfl (by omega) (by omega) (fun h71 => ?_) (fun h71 => ?_)
  · exact absurd h71 (by omega)
  · refine aw_aload3 74 dX11_ofPicture_74 ?_
    refine aw_iload2 75 dX11_ofPicture_75 ?_
    refine aw_bipush 76 10 dX11_ofPicture_76 (by decide) ?_
    refine aw_isubN 78 (10 + k) (10) dX11_ofPicture_78 rfl rfl (by omega) ?_
    rw [show 10 + k - 10 = k by omega]
    refine cr_v1 79 dX11_ofPicture_79 (c_X3_has (hC.pc p hp).2.2.2 hk) ckV_RX11_124 cd_X3_has (hC.pc p hp).2.2.2.1 vc3 rfl rfl (Nat.le_of_ble_eq_true rfl) ⟨⟨by decide, by decide⟩, by decide, by decide⟩ rfl ?_
    refine aw_ifne_b 82 88 dX11_ofPicture_82 (by decide) (fun h82 => ?_) (fun h82 => ?_)
    · have ht : thr τ p k := Decidable.byContradiction (fun q => h82 (brG_out (u := hOf τ p) q))
      rw [if_pos ht]
      refine aw_aload3 88 dX11_ofPicture_88 ?_
      refine aw_get 89 dX11_ofPicture_89 ckF_RX11_127_3 (hC.pc p hp).2.2.2.1 (hC.pc p hp).2.2.2.2.2.1 ?_
      refine aw_iload2 92 dX11_ofPicture_92 ?_
      refine aw_bipush 93 10 dX11_ofPicture_93 (by decide) ?_
      refine aw_isubN 95 (10 + k) (10) dX11_ofPicture_95 rfl rfl (by omega) ?_
      rw [show 10 + k - 10 = k by omega]
      refine ar_ld 96 (k) dX11_ofPicture_96 (hC.pc p hp).2.2.2.2.2.2.2.2.2 rfl (show k < 16 by omega) (by decide) ?_
      rw [brG_in (u := hOf τ p) ht]
      refine aw_iret 97 dX11_ofPicture_97 rfl (Nat.zero_le _) (Nat.zero_le _) ?_
      exact ⟨rfl, hR, α, hC⟩
    · have ht : ¬ thr τ p k := fun q => h82 (by rw [brG_in (u := hOf τ p) q]; exact (irg_nn (hC.sq p hp k hk q)).2.1)
      rw [if_neg ht]
      refine aw_bipush 85 (-2) dX11_ofPicture_85 (by decide) ?_
      refine aw_iret 87 dX11_ofPicture_87 rfl (Nat.zero_le _) (Nat.zero_le _) ?_
      exact ⟨rfl, hR, α, hC⟩

set_option maxHeartbeats 4000000 in
set_option maxRecDepth 100000 in
theorem cn_X11_ofPicture {M0 : Mem} {τ : TT} {α : AT} {p : Nat} {w : Int32} (hC : CW τ α M0) (hp : p < nP τ) (hw : ¬ irg w 10 25) (h03 : w.toInt < 0 ∨ 3 < w.toInt) : CK mX11_ofPicture rmX11_ofPicture [.int (nI p), .int w] M0 (.int (-2)) (τ) := by
  refine am_of rfl rfl (ls := [some (.ref 2), some (.int (nI p)), some (.int w), none]) rfl ?_
  suffices HH : ∀ M, (CW τ α M) → (Kr M0 M) → AW mX11_ofPicture rmX11_ofPicture (fun r' M' => r' = (some (.int (-2))) ∧ (fun M2 => Kr M0 M2 ∧ ∃ α2, CW (τ) α2 M2) M') 0 [some (.ref 2), some (.int (nI p)), some (.int w), none] [] M 0 0 from HH M0 hC (Kr.rf _)
  intro M hC hR
  refine aw_aload0 0 dX11_ofPicture_0 ?_
  refine aw_iload1 1 dX11_ofPicture_1 ?_
  refine cr_v1 2 dX11_ofPicture_2 (c_X11_pictureAt hC hp) ckV_RX11_106 cd_X11_pictureAt hC.xo.1 vc11 rfl rfl (Nat.le_of_ble_eq_true rfl) ⟨⟨by decide, by decide⟩, by decide, by decide⟩ rfl ?_
  refine aw_astore3 5 dX11_ofPicture_5 rfl ?_
  refine aw_aload3 6 dX11_ofPicture_6 ?_
  refine aw_ifnonnull 7 12 dX11_ofPicture_7 (by decide) ?_
  refine aw_iload2 12 dX11_ofPicture_12 ?_
  refine aw_tabOut 13 68 dX11_ofPicture_13 h03 (by decide) ?_
  refine aw_iload2 68 dX11_ofPicture_68 ?_
  refine aw_bipush 69 10 dX11_ofPicture_69 (by decide) ?_
  refine aw_icmp_lt 71 85 dX11_ofPicture_71 (by decide) (fun h71 => ?_) (fun h71 => ?_)
  · refine aw_bipush 85 (-2) dX11_ofPicture_85 (by decide) ?_
    refine aw_iret 87 dX11_ofPicture_87 rfl (Nat.zero_le _) (Nat.zero_le _) ?_
    exact ⟨rfl, hR, α, hC⟩
  · have hn : ¬ irg (w - 10) 0 15 := by
      have h10 : (10 : Int32).toInt = 10 := by decide
      have b1 := Int32.toInt_lt w
      rw [Int32.lt_iff_toInt_lt, h10] at h71
      have e := i32s (x := w) (y := 10) (by rw [h10]; omega) (by rw [h10]; omega)
      rw [h10] at e
      unfold irg at *
      rw [e]
      omega
    refine aw_aload3 74 dX11_ofPicture_74 ?_
    refine aw_iload2 75 dX11_ofPicture_75 ?_
    refine aw_bipush 76 10 dX11_ofPicture_76 (by decide) ?_
    refine aw_isub 78 dX11_ofPicture_78 ?_
    refine cr_v1 79 dX11_ofPicture_79 (n_X3_has (hC.pc p hp).2.2.2 hn) ckV_RX11_124 cd_X3_has (hC.pc p hp).2.2.2.1 vc3 rfl rfl (Nat.le_of_ble_eq_true rfl) ⟨⟨by decide, by decide⟩, by decide, by decide⟩ rfl ?_
    rw [show (0 : Int32) = bi False from rfl]
    refine aw_ifne_b 82 88 dX11_ofPicture_82 (by decide) (fun h82 => ?_) (fun h82 => ?_)
    · exact h82.elim
    · refine aw_bipush 85 (-2) dX11_ofPicture_85 (by decide) ?_
      refine aw_iret 87 dX11_ofPicture_87 rfl (Nat.zero_le _) (Nat.zero_le _) ?_
      exact ⟨rfl, hR, α, hC⟩

theorem c_X11_ofPicture {M0 : Mem} {τ : TT} {α : AT} {p : Nat} {w : Int32} (hC : CW τ α M0) (hp : p < nP τ) : CK mX11_ofPicture rmX11_ofPicture [.int (nI p), .int w] M0 (.int (sOf τ p w)) τ := by
  unfold sOf
  by_cases h0 : w = 0
  · subst h0; rw [if_pos rfl]; exact c0_X11_ofPicture hC hp
  rw [if_neg h0]
  by_cases h1 : w = 1
  · subst h1; rw [if_pos rfl]; exact c1_X11_ofPicture hC hp
  rw [if_neg h1]
  by_cases h2 : w = 2
  · subst h2; rw [if_pos rfl]; exact c2_X11_ofPicture hC hp
  rw [if_neg h2]
  by_cases h3 : w = 3
  · subst h3; rw [if_pos rfl]; exact c3_X11_ofPicture hC hp
  rw [if_neg h3]
  by_cases h : irg w 10 25
  · obtain ⟨z, hz, rfl⟩ := ir_of (v := w) (n := 26) ⟨by have := h.1; omega, by have := h.2; omega⟩ (by decide)
    have hc := nI_clamp (n := z) (by omega)
    have h2 := h
    rw [irg, nI_toInt (by omega)] at h2
    rw [hc]
    have q := ck_X11_ofPicture hC hp (k := z - 10) (by omega)
    rw [show 10 + (z - 10) = z by omega] at q
    by_cases ht : thr τ p (z - 10)
    · rw [if_pos ⟨h, ht⟩]; rw [if_pos ht] at q; exact q
    · rw [if_neg (fun q => ht q.2)]; rw [if_neg ht] at q; exact q
  · rw [if_neg (fun q => h q.1)]
    have q0 := lv_neT (a := 0) h0 (by decide)
    have q1 := lv_neT (a := 1) h1 (by decide)
    have q2 := lv_neT (a := 2) h2 (by decide)
    have q3 := lv_neT (a := 3) h3 (by decide)
    exact cn_X11_ofPicture hC hp h (by omega)

def rmX11_proof : Room := { frames := 2, cells := 0, slots := 0, locals := 43 }
set_option maxHeartbeats 4000000 in
set_option maxRecDepth 100000 in
theorem c_X11_proof {M0 : Mem} {τ : TT} {α : AT} {p j k : Nat} (hC : CW τ α M0) (hp : p < nP τ) (hj : j < 16) (hk : k < 4) : CK mX11_proof rmX11_proof [.int (nI p), .int (nI j), .int (nI k)] M0 (.int (TN (leaf τ p) (((16 + j) / 2 ^ k) ^^^ 1))) (τ) := by
  refine am_of rfl rfl (ls := [some (.ref 2), some (.int (nI p)), some (.int (nI j)), some (.int (nI k)), none]) rfl ?_
  suffices HH : ∀ M, (CW τ α M) → (Kr M0 M) → AW mX11_proof rmX11_proof (fun r' M' => r' = (some (.int (TN (leaf τ p) (((16 + j) / 2 ^ k) ^^^ 1)))) ∧ (fun M2 => Kr M0 M2 ∧ ∃ α2, CW (τ) α2 M2) M') 0 [some (.ref 2), some (.int (nI p)), some (.int (nI j)), some (.int (nI k)), none] [] M 0 0 from HH M0 hC (Kr.rf _)
  intro M hC hR
  refine aw_aload0 0 dX11_proof_0 ?_
  refine aw_iload1 1 dX11_proof_1 ?_
  refine cr_v1 2 dX11_proof_2 (c_X11_pictureAt hC hp) ckV_RX11_106 cd_X11_pictureAt hC.xo.1 vc11 rfl rfl (Nat.le_of_ble_eq_true rfl) ⟨⟨by decide, by decide⟩, by decide, by decide⟩ rfl ?_
  refine aw_astore4 5 dX11_proof_5 rfl ?_
  refine aw_aload4 7 dX11_proof_7 ?_
  refine aw_ifnull 9 dX11_proof_9 ?_
  refine aw_iload2 12 dX11_proof_12 ?_
  refine cr_s1 13 dX11_proof_13 (cr_sd c_X11_isPlace) ckS_RX11_229 cd_X11_isPlace rfl (Nat.le_of_ble_eq_true rfl) ⟨⟨by decide, by decide⟩, by decide, by decide⟩ rfl ?_
  refine aw_ifeq_b 16 28 dX11_proof_16 (by decide) (fun h16 => ?_) (fun h16 => ?_)
  · exact absurd (irg_nI (b := 15) (by decide) (by omega)) h16
  · refine aw_iload3 19 dX11_proof_19 ?_
    refine aw_ic0 20 dX11_proof_20 ?_
    refine aw_ic3 21 dX11_proof_21 ?_
    refine cr_s1 22 dX11_proof_22 (cr_sd (c_isInZ (0) (3) (by decide) (by decide))) ckS_RX11_72 cd_X11_isIn rfl (Nat.le_of_ble_eq_true rfl) ⟨⟨by decide, by decide⟩, by decide, by decide⟩ rfl ?_
    refine aw_ifne_b 25 30 dX11_proof_25 (by decide) (fun h25 => ?_) (fun h25 => ?_)
    · refine aw_aload0 30 dX11_proof_30 ?_
      refine aw_get 31 dX11_proof_31 ckF_RX11_38_11 hC.xo.1 hC.xo.2.2.2.2.2.1 ?_
      refine aw_aload4 34 dX11_proof_34 ?_
      refine ap_v1 36 dX11_proof_36 (c_X9_rootOf (hC.pc p hp).2.2.2 hC.sx.1 (by have := (hC.pc p hp).1; omega)) ckV_RX11_120 cd_X9_rootOf hC.sx.1.1 vc9 rfl rfl (Nat.le_of_ble_eq_true rfl) ⟨⟨by decide, by decide⟩, by decide, by decide⟩ rfl (fun M hq => ?_)
      replace hR := hR.trans (hq.1.kp.kr hC.m1 (fun b q => by omega))
      replace hC := hC.wd8 hq.1
      rw [leaf_br] at hq
      refine aw_pop 39 dX11_proof_39 rfl ?_
      refine aw_aload0 40 dX11_proof_40 ?_
      refine aw_get 41 dX11_proof_41 ckF_RX11_38_11 hC.xo.1 hC.xo.2.2.2.2.2.1 ?_
      refine aw_iload2 44 dX11_proof_44 ?_
      refine aw_iload3 45 dX11_proof_45 ?_
      refine cr_v1 46 dX11_proof_46 (c_X9_beside hC.sx.1 hq.2 hj hk) ckV_RX11_232 cd_X9_beside hC.sx.1.1 vc9 rfl rfl (Nat.le_of_ble_eq_true rfl) ⟨⟨by decide, by decide⟩, by decide, by decide⟩ rfl ?_
      refine aw_iret 49 dX11_proof_49 rfl (Nat.zero_le _) (Nat.zero_le _) ?_
      exact ⟨rfl, hR, α, hC⟩
    · exact absurd (irg_nI (b := 3) (by decide) (by omega)) h25

set_option maxHeartbeats 4000000 in
set_option maxRecDepth 100000 in
theorem n_X11_proof {M0 : Mem} {τ : TT} {α : AT} {v w u : Int32} (hC : CW τ α M0) (hno : ¬ ir v (nP τ)) : CK mX11_proof rmX11_proof [.int v, .int w, .int u] M0 (.int (-1)) (τ) := by
  refine am_of rfl rfl (ls := [some (.ref 2), some (.int v), some (.int w), some (.int u), none]) rfl ?_
  suffices HH : ∀ M, (CW τ α M) → (Kr M0 M) → AW mX11_proof rmX11_proof (fun r' M' => r' = (some (.int (-1))) ∧ (fun M2 => Kr M0 M2 ∧ ∃ α2, CW (τ) α2 M2) M') 0 [some (.ref 2), some (.int v), some (.int w), some (.int u), none] [] M 0 0 from HH M0 hC (Kr.rf _)
  intro M hC hR
  refine aw_aload0 0 dX11_proof_0 ?_
  refine aw_iload1 1 dX11_proof_1 ?_
  refine cr_v1 2 dX11_proof_2 (n_X11_pictureAt hC hno) ckV_RX11_106 cd_X11_pictureAt hC.xo.1 vc11 rfl rfl (Nat.le_of_ble_eq_true rfl) ⟨⟨by decide, by decide⟩, by decide, by decide⟩ rfl ?_
  refine aw_astoreN4 5 dX11_proof_5 rfl ?_
  refine aw_aloadN4 7 dX11_proof_7 ?_
  refine aw_ifnullN 9 28 dX11_proof_9 (by decide) ?_
  refine aw_icm1 28 dX11_proof_28 ?_
  refine aw_iret 29 dX11_proof_29 rfl (Nat.zero_le _) (Nat.zero_le _) ?_
  exact ⟨rfl, hR, α, hC⟩

set_option maxHeartbeats 4000000 in
set_option maxRecDepth 100000 in
theorem n2_X11_proof {M0 : Mem} {τ : TT} {α : AT} {p : Nat} {w u : Int32} (hC : CW τ α M0) (hp : p < nP τ) (hno : ¬ irg w 0 15 ∨ ¬ irg u 0 3) : CK mX11_proof rmX11_proof [.int (nI p), .int w, .int u] M0 (.int (-1)) (τ) := by
  refine am_of rfl rfl (ls := [some (.ref 2), some (.int (nI p)), some (.int w), some (.int u), none]) rfl ?_
  suffices HH : ∀ M, (CW τ α M) → (Kr M0 M) → AW mX11_proof rmX11_proof (fun r' M' => r' = (some (.int (-1))) ∧ (fun M2 => Kr M0 M2 ∧ ∃ α2, CW (τ) α2 M2) M') 0 [some (.ref 2), some (.int (nI p)), some (.int w), some (.int u), none] [] M 0 0 from HH M0 hC (Kr.rf _)
  intro M hC hR
  refine aw_aload0 0 dX11_proof_0 ?_
  refine aw_iload1 1 dX11_proof_1 ?_
  refine cr_v1 2 dX11_proof_2 (c_X11_pictureAt hC hp) ckV_RX11_106 cd_X11_pictureAt hC.xo.1 vc11 rfl rfl (Nat.le_of_ble_eq_true rfl) ⟨⟨by decide, by decide⟩, by decide, by decide⟩ rfl ?_
  refine aw_astore4 5 dX11_proof_5 rfl ?_
  refine aw_aload4 7 dX11_proof_7 ?_
  refine aw_ifnull 9 dX11_proof_9 ?_
  refine aw_iload2 12 dX11_proof_12 ?_
  refine cr_s1 13 dX11_proof_13 (cr_sd c_X11_isPlace) ckS_RX11_229 cd_X11_isPlace rfl (Nat.le_of_ble_eq_true rfl) ⟨⟨by decide, by decide⟩, by decide, by decide⟩ rfl ?_
  refine aw_ifeq_b 16 28 dX11_proof_16 (by decide) (fun h16 => ?_) (fun h16 => ?_)
  · refine aw_icm1 28 dX11_proof_28 ?_
    refine aw_iret 29 dX11_proof_29 rfl (Nat.zero_le _) (Nat.zero_le _) ?_
    exact ⟨rfl, hR, α, hC⟩
  · refine aw_iload3 19 dX11_proof_19 ?_
    refine aw_ic0 20 dX11_proof_20 ?_
    refine aw_ic3 21 dX11_proof_21 ?_
    refine cr_s1 22 dX11_proof_22 (cr_sd (c_isInZ (0) (3) (by decide) (by decide))) ckS_RX11_72 cd_X11_isIn rfl (Nat.le_of_ble_eq_true rfl) ⟨⟨by decide, by decide⟩, by decide, by decide⟩ rfl ?_
    refine aw_ifne_b 25 30 dX11_proof_25 (by decide) (fun h25 => ?_) (fun h25 => ?_)
    · exact (hno.elim (fun q => q h16) (fun q => q h25)).elim
    · refine aw_icm1 28 dX11_proof_28 ?_
      refine aw_iret 29 dX11_proof_29 rfl (Nat.zero_le _) (Nat.zero_le _) ?_
      exact ⟨rfl, hR, α, hC⟩

def rmX11_found : Room := { frames := 4, cells := 0, slots := 0, locals := 87 }
set_option maxHeartbeats 4000000 in
set_option maxRecDepth 100000 in
theorem n_X11_found {M0 : Mem} {τ : TT} {α : AT} {v v2 : Int32} (hC : CW τ α M0) (hno : ¬ ir v (nP τ)) : CK mX11_found rmX11_found [.int v, .int v2] M0 (.int (-1)) (τ) := by
  refine am_of rfl rfl (ls := [some (.ref 2), some (.int v), some (.int v2), none]) rfl ?_
  suffices HH : ∀ M, (CW τ α M) → (Kr M0 M) → AW mX11_found rmX11_found (fun r' M' => r' = (some (.int (-1))) ∧ (fun M2 => Kr M0 M2 ∧ ∃ α2, CW (τ) α2 M2) M') 0 [some (.ref 2), some (.int v), some (.int v2), none] [] M 0 0 from HH M0 hC (Kr.rf _)
  intro M hC hR
  refine aw_aload0 0 dX11_found_0 ?_
  refine aw_iload1 1 dX11_found_1 ?_
  refine cr_v1 2 dX11_found_2 (n_X11_pictureAt hC hno) ckV_RX11_106 cd_X11_pictureAt hC.xo.1 vc11 rfl rfl (Nat.le_of_ble_eq_true rfl) ⟨⟨by decide, by decide⟩, by decide, by decide⟩ rfl ?_
  refine aw_astoreN3 5 dX11_found_5 rfl ?_
  refine aw_aloadN3 6 dX11_found_6 ?_
  refine aw_ifnonnullN 7 dX11_found_7 ?_
  refine aw_icm1 10 dX11_found_10 ?_
  refine aw_iret 11 dX11_found_11 rfl (Nat.zero_le _) (Nat.zero_le _) ?_
  exact ⟨rfl, hR, α, hC⟩

set_option maxHeartbeats 4000000 in
set_option maxRecDepth 100000 in
theorem c_X11_found {M0 : Mem} {τ : TT} {α : AT} {p : Nat} {w : Int32} (hC : CW τ α M0) (hp : p < nP τ) : CK mX11_found rmX11_found [.int (nI p), .int w] M0 (.int (if irg w 0 255 then fnd τ p w (min 8 (wd τ p * hg τ p)) else -2)) (τ) := by
  refine am_of rfl rfl (ls := [some (.ref 2), some (.int (nI p)), some (.int w), none]) rfl ?_
  suffices HH : ∀ M, (CW τ α M) → (Kr M0 M) → AW mX11_found rmX11_found (fun r' M' => r' = (some (.int (if irg w 0 255 then fnd τ p w (min 8 (wd τ p * hg τ p)) else -2))) ∧ (fun M2 => Kr M0 M2 ∧ ∃ α2, CW (τ) α2 M2) M') 0 [some (.ref 2), some (.int (nI p)), some (.int w), none] [] M 0 0 from HH M0 hC (Kr.rf _)
  intro M hC hR
  refine aw_aload0 0 dX11_found_0 ?_
  refine aw_iload1 1 dX11_found_1 ?_
  refine cr_v1 2 dX11_found_2 (c_X11_pictureAt hC hp) ckV_RX11_106 cd_X11_pictureAt hC.xo.1 vc11 rfl rfl (Nat.le_of_ble_eq_true rfl) ⟨⟨by decide, by decide⟩, by decide, by decide⟩ rfl ?_
  refine aw_astore3 5 dX11_found_5 rfl ?_
  refine aw_aload3 6 dX11_found_6 ?_
  refine aw_ifnonnull 7 12 dX11_found_7 (by decide) ?_
  refine aw_iload2 12 dX11_found_12 ?_
  refine cr_s1 13 dX11_found_13 (cr_sd c_X11_isMark) ckS_RX11_242 cd_X11_isMark rfl (Nat.le_of_ble_eq_true rfl) ⟨⟨by decide, by decide⟩, by decide, by decide⟩ rfl ?_
  refine aw_ifeq_b 16 27 dX11_found_16 (by decide) (fun h16 => ?_) (fun h16 => ?_)
  · rw [if_neg h16]
    refine aw_bipush 27 (-2) dX11_found_27 (by decide) ?_
    refine aw_iret 29 dX11_found_29 rfl (Nat.zero_le _) (Nat.zero_le _) ?_
    exact ⟨rfl, hR, α, hC⟩
  · rw [if_pos h16]
    refine aw_aload3 19 dX11_found_19 ?_
    refine aw_iload2 20 dX11_found_20 ?_
    refine cr_v1 21 dX11_found_21 (c_X3_agreement (hC.pc p hp).2.2.2) ckV_RX11_248 cd_X3_agreement (hC.pc p hp).2.2.2.1 vc3 rfl rfl (Nat.le_of_ble_eq_true rfl) ⟨⟨by decide, by decide⟩, by decide, by decide⟩ rfl ?_
    rw [fnd_eq hC.wp hC.sq hp]
    refine aw_goto 24 29 dX11_found_24 (by decide) ?_
    refine aw_iret 29 dX11_found_29 rfl (Nat.zero_le _) (Nat.zero_le _) ?_
    exact ⟨rfl, hR, α, hC⟩

def rmX11_like : Room := { frames := 5, cells := 0, slots := 0, locals := 106 }
set_option maxHeartbeats 4000000 in
set_option maxRecDepth 100000 in
theorem c_X11_like {M0 : Mem} {τ : TT} {α : AT} {p q : Nat} (hC : CW τ α M0) (hp : p < nP τ) (hq : q < nP τ) : CK mX11_like rmX11_like [.int (nI p), .int (nI q)] M0 (.int (lkn τ p q)) (τ) := by
  refine am_of rfl rfl (ls := [some (.ref 2), some (.int (nI p)), some (.int (nI q)), none, none]) rfl ?_
  suffices HH : ∀ M, (CW τ α M) → (Kr M0 M) → AW mX11_like rmX11_like (fun r' M' => r' = (some (.int (lkn τ p q))) ∧ (fun M2 => Kr M0 M2 ∧ ∃ α2, CW (τ) α2 M2) M') 0 [some (.ref 2), some (.int (nI p)), some (.int (nI q)), none, none] [] M 0 0 from HH M0 hC (Kr.rf _)
  intro M hC hR
  refine aw_aload0 0 dX11_like_0 ?_
  refine aw_iload1 1 dX11_like_1 ?_
  refine cr_v1 2 dX11_like_2 (c_X11_pictureAt hC hp) ckV_RX11_106 cd_X11_pictureAt hC.xo.1 vc11 rfl rfl (Nat.le_of_ble_eq_true rfl) ⟨⟨by decide, by decide⟩, by decide, by decide⟩ rfl ?_
  refine aw_astore3 5 dX11_like_5 rfl ?_
  refine aw_aload0 6 dX11_like_6 ?_
  refine aw_iload2 7 dX11_like_7 ?_
  refine cr_v1 8 dX11_like_8 (c_X11_pictureAt hC hq) ckV_RX11_106 cd_X11_pictureAt hC.xo.1 vc11 rfl rfl (Nat.le_of_ble_eq_true rfl) ⟨⟨by decide, by decide⟩, by decide, by decide⟩ rfl ?_
  refine aw_astore4 11 dX11_like_11 rfl ?_
  refine aw_aload3 13 dX11_like_13 ?_
  refine aw_ifnull 14 dX11_like_14 ?_
  refine aw_aload4 17 dX11_like_17 ?_
  refine aw_ifnonnull 19 26 dX11_like_19 (by decide) ?_
  refine aw_aload3 26 dX11_like_26 ?_
  refine aw_aload4 27 dX11_like_27 ?_
  refine cr_s1 29 dX11_like_29 (c_X11_likeness hC hp hq) ckS_RX11_264 cd_X11_likeness rfl (Nat.le_of_ble_eq_true rfl) ⟨⟨by decide, by decide⟩, by decide, by decide⟩ rfl ?_
  refine aw_iret 32 dX11_like_32 rfl (Nat.zero_le _) (Nat.zero_le _) ?_
  exact ⟨rfl, hR, α, hC⟩

set_option maxHeartbeats 4000000 in
set_option maxRecDepth 100000 in
theorem n_X11_like {M0 : Mem} {τ : TT} {α : AT} {v w : Int32} (hC : CW τ α M0) (hno : ¬ ir v (nP τ)) (hno2 : ¬ ir w (nP τ)) : CK mX11_like rmX11_like [.int v, .int w] M0 (.int (-1)) (τ) := by
  refine am_of rfl rfl (ls := [some (.ref 2), some (.int v), some (.int w), none, none]) rfl ?_
  suffices HH : ∀ M, (CW τ α M) → (Kr M0 M) → AW mX11_like rmX11_like (fun r' M' => r' = (some (.int (-1))) ∧ (fun M2 => Kr M0 M2 ∧ ∃ α2, CW (τ) α2 M2) M') 0 [some (.ref 2), some (.int v), some (.int w), none, none] [] M 0 0 from HH M0 hC (Kr.rf _)
  intro M hC hR
  refine aw_aload0 0 dX11_like_0 ?_
  refine aw_iload1 1 dX11_like_1 ?_
  refine cr_v1 2 dX11_like_2 (n_X11_pictureAt hC hno) ckV_RX11_106 cd_X11_pictureAt hC.xo.1 vc11 rfl rfl (Nat.le_of_ble_eq_true rfl) ⟨⟨by decide, by decide⟩, by decide, by decide⟩ rfl ?_
  refine aw_astoreN3 5 dX11_like_5 rfl ?_
  refine aw_aload0 6 dX11_like_6 ?_
  refine aw_iload2 7 dX11_like_7 ?_
  refine cr_v1 8 dX11_like_8 (n_X11_pictureAt hC hno2) ckV_RX11_106 cd_X11_pictureAt hC.xo.1 vc11 rfl rfl (Nat.le_of_ble_eq_true rfl) ⟨⟨by decide, by decide⟩, by decide, by decide⟩ rfl ?_
  refine aw_astoreN4 11 dX11_like_11 rfl ?_
  refine aw_aloadN3 13 dX11_like_13 ?_
  refine aw_ifnullN 14 22 dX11_like_14 (by decide) ?_
  refine aw_icm1 22 dX11_like_22 ?_
  refine aw_goto 23 32 dX11_like_23 (by decide) ?_
  refine aw_iret 32 dX11_like_32 rfl (Nat.zero_le _) (Nat.zero_le _) ?_
  exact ⟨rfl, hR, α, hC⟩

set_option maxHeartbeats 4000000 in
set_option maxRecDepth 100000 in
theorem n2_X11_like {M0 : Mem} {τ : TT} {α : AT} {v : Int32} {q : Nat} (hC : CW τ α M0) (hno : ¬ ir v (nP τ)) (hq : q < nP τ) : CK mX11_like rmX11_like [.int v, .int (nI q)] M0 (.int (-1)) (τ) := by
  refine am_of rfl rfl (ls := [some (.ref 2), some (.int v), some (.int (nI q)), none, none]) rfl ?_
  suffices HH : ∀ M, (CW τ α M) → (Kr M0 M) → AW mX11_like rmX11_like (fun r' M' => r' = (some (.int (-1))) ∧ (fun M2 => Kr M0 M2 ∧ ∃ α2, CW (τ) α2 M2) M') 0 [some (.ref 2), some (.int v), some (.int (nI q)), none, none] [] M 0 0 from HH M0 hC (Kr.rf _)
  intro M hC hR
  refine aw_aload0 0 dX11_like_0 ?_
  refine aw_iload1 1 dX11_like_1 ?_
  refine cr_v1 2 dX11_like_2 (n_X11_pictureAt hC hno) ckV_RX11_106 cd_X11_pictureAt hC.xo.1 vc11 rfl rfl (Nat.le_of_ble_eq_true rfl) ⟨⟨by decide, by decide⟩, by decide, by decide⟩ rfl ?_
  refine aw_astoreN3 5 dX11_like_5 rfl ?_
  refine aw_aload0 6 dX11_like_6 ?_
  refine aw_iload2 7 dX11_like_7 ?_
  refine cr_v1 8 dX11_like_8 (c_X11_pictureAt hC hq) ckV_RX11_106 cd_X11_pictureAt hC.xo.1 vc11 rfl rfl (Nat.le_of_ble_eq_true rfl) ⟨⟨by decide, by decide⟩, by decide, by decide⟩ rfl ?_
  refine aw_astore4 11 dX11_like_11 rfl ?_
  refine aw_aloadN3 13 dX11_like_13 ?_
  refine aw_ifnullN 14 22 dX11_like_14 (by decide) ?_
  refine aw_icm1 22 dX11_like_22 ?_
  refine aw_goto 23 32 dX11_like_23 (by decide) ?_
  refine aw_iret 32 dX11_like_32 rfl (Nat.zero_le _) (Nat.zero_le _) ?_
  exact ⟨rfl, hR, α, hC⟩

set_option maxHeartbeats 4000000 in
set_option maxRecDepth 100000 in
theorem n3_X11_like {M0 : Mem} {τ : TT} {α : AT} {p : Nat} {w : Int32} (hC : CW τ α M0) (hp : p < nP τ) (hno2 : ¬ ir w (nP τ)) : CK mX11_like rmX11_like [.int (nI p), .int w] M0 (.int (-1)) (τ) := by
  refine am_of rfl rfl (ls := [some (.ref 2), some (.int (nI p)), some (.int w), none, none]) rfl ?_
  suffices HH : ∀ M, (CW τ α M) → (Kr M0 M) → AW mX11_like rmX11_like (fun r' M' => r' = (some (.int (-1))) ∧ (fun M2 => Kr M0 M2 ∧ ∃ α2, CW (τ) α2 M2) M') 0 [some (.ref 2), some (.int (nI p)), some (.int w), none, none] [] M 0 0 from HH M0 hC (Kr.rf _)
  intro M hC hR
  refine aw_aload0 0 dX11_like_0 ?_
  refine aw_iload1 1 dX11_like_1 ?_
  refine cr_v1 2 dX11_like_2 (c_X11_pictureAt hC hp) ckV_RX11_106 cd_X11_pictureAt hC.xo.1 vc11 rfl rfl (Nat.le_of_ble_eq_true rfl) ⟨⟨by decide, by decide⟩, by decide, by decide⟩ rfl ?_
  refine aw_astore3 5 dX11_like_5 rfl ?_
  refine aw_aload0 6 dX11_like_6 ?_
  refine aw_iload2 7 dX11_like_7 ?_
  refine cr_v1 8 dX11_like_8 (n_X11_pictureAt hC hno2) ckV_RX11_106 cd_X11_pictureAt hC.xo.1 vc11 rfl rfl (Nat.le_of_ble_eq_true rfl) ⟨⟨by decide, by decide⟩, by decide, by decide⟩ rfl ?_
  refine aw_astoreN4 11 dX11_like_11 rfl ?_
  refine aw_aload3 13 dX11_like_13 ?_
  refine aw_ifnull 14 dX11_like_14 ?_
  refine aw_aloadN4 17 dX11_like_17 ?_
  refine aw_ifnonnullN 19 dX11_like_19 ?_
  refine aw_icm1 22 dX11_like_22 ?_
  refine aw_goto 23 32 dX11_like_23 (by decide) ?_
  refine aw_iret 32 dX11_like_32 rfl (Nat.zero_le _) (Nat.zero_le _) ?_
  exact ⟨rfl, hR, α, hC⟩

def rmX11_coarse : Room := { frames := 2, cells := 0, slots := 0, locals := 43 }
set_option maxHeartbeats 4000000 in
set_option maxRecDepth 100000 in
theorem n_X11_coarse {M0 : Mem} {τ : TT} {α : AT} {v v2 : Int32} (hC : CW τ α M0) (hno : ¬ ir v (nP τ)) : CK mX11_coarse rmX11_coarse [.int v, .int v2] M0 (.int (-1)) (τ) := by
  refine am_of rfl rfl (ls := [some (.ref 2), some (.int v), some (.int v2), none]) rfl ?_
  suffices HH : ∀ M, (CW τ α M) → (Kr M0 M) → AW mX11_coarse rmX11_coarse (fun r' M' => r' = (some (.int (-1))) ∧ (fun M2 => Kr M0 M2 ∧ ∃ α2, CW (τ) α2 M2) M') 0 [some (.ref 2), some (.int v), some (.int v2), none] [] M 0 0 from HH M0 hC (Kr.rf _)
  intro M hC hR
  refine aw_aload0 0 dX11_coarse_0 ?_
  refine aw_iload1 1 dX11_coarse_1 ?_
  refine cr_v1 2 dX11_coarse_2 (n_X11_pictureAt hC hno) ckV_RX11_106 cd_X11_pictureAt hC.xo.1 vc11 rfl rfl (Nat.le_of_ble_eq_true rfl) ⟨⟨by decide, by decide⟩, by decide, by decide⟩ rfl ?_
  refine aw_astoreN3 5 dX11_coarse_5 rfl ?_
  refine aw_aloadN3 6 dX11_coarse_6 ?_
  refine aw_ifnonnullN 7 dX11_coarse_7 ?_
  refine aw_icm1 10 dX11_coarse_10 ?_
  refine aw_iret 11 dX11_coarse_11 rfl (Nat.zero_le _) (Nat.zero_le _) ?_
  exact ⟨rfl, hR, α, hC⟩

set_option maxHeartbeats 4000000 in
set_option maxRecDepth 100000 in
theorem n2_X11_coarse {M0 : Mem} {τ : TT} {α : AT} {p : Nat} {w : Int32} (hC : CW τ α M0) (hp : p < nP τ) (hw : ¬ irg w 1 24) : CK mX11_coarse rmX11_coarse [.int (nI p), .int w] M0 (.int (-2)) (τ) := by
  refine am_of rfl rfl (ls := [some (.ref 2), some (.int (nI p)), some (.int w), none]) rfl ?_
  suffices HH : ∀ M, (CW τ α M) → (Kr M0 M) → AW mX11_coarse rmX11_coarse (fun r' M' => r' = (some (.int (-2))) ∧ (fun M2 => Kr M0 M2 ∧ ∃ α2, CW (τ) α2 M2) M') 0 [some (.ref 2), some (.int (nI p)), some (.int w), none] [] M 0 0 from HH M0 hC (Kr.rf _)
  intro M hC hR
  refine aw_aload0 0 dX11_coarse_0 ?_
  refine aw_iload1 1 dX11_coarse_1 ?_
  refine cr_v1 2 dX11_coarse_2 (c_X11_pictureAt hC hp) ckV_RX11_106 cd_X11_pictureAt hC.xo.1 vc11 rfl rfl (Nat.le_of_ble_eq_true rfl) ⟨⟨by decide, by decide⟩, by decide, by decide⟩ rfl ?_
  refine aw_astore3 5 dX11_coarse_5 rfl ?_
  refine aw_aload3 6 dX11_coarse_6 ?_
  refine aw_ifnonnull 7 12 dX11_coarse_7 (by decide) ?_
  refine aw_iload2 12 dX11_coarse_12 ?_
  refine aw_ic1 13 dX11_coarse_13 ?_
  refine aw_bipush 14 24 dX11_coarse_14 (by decide) ?_
  refine cr_s1 16 dX11_coarse_16 (cr_sd (c_isInZ (1) (24) (by decide) (by decide))) ckS_RX11_72 cd_X11_isIn rfl (Nat.le_of_ble_eq_true rfl) ⟨⟨by decide, by decide⟩, by decide, by decide⟩ rfl ?_
  refine aw_ifne_b 19 25 dX11_coarse_19 (by decide) (fun h19 => ?_) (fun h19 => ?_)
  · exact absurd h19 hw
  · refine aw_bipush 22 (-2) dX11_coarse_22 (by decide) ?_
    refine aw_iret 24 dX11_coarse_24 rfl (Nat.zero_le _) (Nat.zero_le _) ?_
    exact ⟨rfl, hR, α, hC⟩

set_option maxHeartbeats 4000000 in
set_option maxRecDepth 100000 in
theorem n3_X11_coarse {M0 : Mem} {τ : TT} {α : AT} {p : Nat} {w : Int32} (hC : CW τ α M0) (hp : p < nP τ) (hw : irg w 1 24) (hno : τ 16 p < 0) : CK mX11_coarse rmX11_coarse [.int (nI p), .int w] M0 (.int (-3)) (τ) := by
  refine am_of rfl rfl (ls := [some (.ref 2), some (.int (nI p)), some (.int w), none]) rfl ?_
  suffices HH : ∀ M, (CW τ α M) → (Kr M0 M) → AW mX11_coarse rmX11_coarse (fun r' M' => r' = (some (.int (-3))) ∧ (fun M2 => Kr M0 M2 ∧ ∃ α2, CW (τ) α2 M2) M') 0 [some (.ref 2), some (.int (nI p)), some (.int w), none] [] M 0 0 from HH M0 hC (Kr.rf _)
  intro M hC hR
  refine aw_aload0 0 dX11_coarse_0 ?_
  refine aw_iload1 1 dX11_coarse_1 ?_
  refine cr_v1 2 dX11_coarse_2 (c_X11_pictureAt hC hp) ckV_RX11_106 cd_X11_pictureAt hC.xo.1 vc11 rfl rfl (Nat.le_of_ble_eq_true rfl) ⟨⟨by decide, by decide⟩, by decide, by decide⟩ rfl ?_
  refine aw_astore3 5 dX11_coarse_5 rfl ?_
  refine aw_aload3 6 dX11_coarse_6 ?_
  refine aw_ifnonnull 7 12 dX11_coarse_7 (by decide) ?_
  refine aw_iload2 12 dX11_coarse_12 ?_
  refine aw_ic1 13 dX11_coarse_13 ?_
  refine aw_bipush 14 24 dX11_coarse_14 (by decide) ?_
  refine cr_s1 16 dX11_coarse_16 (cr_sd (c_isInZ (1) (24) (by decide) (by decide))) ckS_RX11_72 cd_X11_isIn rfl (Nat.le_of_ble_eq_true rfl) ⟨⟨by decide, by decide⟩, by decide, by decide⟩ rfl ?_
  refine aw_ifne_b 19 25 dX11_coarse_19 (by decide) (fun h19 => ?_) (fun h19 => ?_)
  · refine aw_aload3 25 dX11_coarse_25 ?_
    refine aw_get 26 dX11_coarse_26 ckF_RX11_147_3 (hC.pc p hp).2.2.2.1 ((hC.pc p hp).2.2.2.2.2.2.2.2.1.trans (if_pos hno)) ?_
    refine aw_ifnonnullN 29 dX11_coarse_29 ?_
    refine aw_bipush 32 (-3) dX11_coarse_32 (by decide) ?_
    refine aw_goto 34 48 dX11_coarse_34 (by decide) ?_
    refine aw_iret 48 dX11_coarse_48 rfl (Nat.zero_le _) (Nat.zero_le _) ?_
    exact ⟨rfl, hR, α, hC⟩
  · exact absurd hw h19

set_option maxHeartbeats 4000000 in
set_option maxRecDepth 100000 in
theorem c0_X11_coarse {M0 : Mem} {τ : TT} {α : AT} {p : Nat} {w : Int32} (hC : CW τ α M0) (hp : p < nP τ) (hw : irg w 1 24) (hN : NC0 τ α M0 p) : CK mX11_coarse rmX11_coarse [.int (nI p), .int w] M0 (.int (τ 18 p / w * w)) (τ) := by
  refine am_of rfl rfl (ls := [some (.ref 2), some (.int (nI p)), some (.int w), none]) rfl ?_
  suffices HH : ∀ M, (CW τ α M) → (Kr M0 M) → (NC0 τ α M p) → AW mX11_coarse rmX11_coarse (fun r' M' => r' = (some (.int (τ 18 p / w * w))) ∧ (fun M2 => Kr M0 M2 ∧ ∃ α2, CW (τ) α2 M2) M') 0 [some (.ref 2), some (.int (nI p)), some (.int w), none] [] M 0 0 from HH M0 hC (Kr.rf _) hN
  intro M hC hR hN
  have hno : ¬ τ 16 p < 0 := by rw [hN.1]; decide
  have hln := hC.ln hp hno
  have hnc := hC.nc p hp hno
  refine aw_aload0 0 dX11_coarse_0 ?_
  refine aw_iload1 1 dX11_coarse_1 ?_
  refine cr_v1 2 dX11_coarse_2 (c_X11_pictureAt hC hp) ckV_RX11_106 cd_X11_pictureAt hC.xo.1 vc11 rfl rfl (Nat.le_of_ble_eq_true rfl) ⟨⟨by decide, by decide⟩, by decide, by decide⟩ rfl ?_
  refine aw_astore3 5 dX11_coarse_5 rfl ?_
  refine aw_aload3 6 dX11_coarse_6 ?_
  refine aw_ifnonnull 7 12 dX11_coarse_7 (by decide) ?_
  refine aw_iload2 12 dX11_coarse_12 ?_
  refine aw_ic1 13 dX11_coarse_13 ?_
  refine aw_bipush 14 24 dX11_coarse_14 (by decide) ?_
  refine cr_s1 16 dX11_coarse_16 (cr_sd (c_isInZ (1) (24) (by decide) (by decide))) ckS_RX11_72 cd_X11_isIn rfl (Nat.le_of_ble_eq_true rfl) ⟨⟨by decide, by decide⟩, by decide, by decide⟩ rfl ?_
  refine aw_ifne_b 19 25 dX11_coarse_19 (by decide) (fun h19 => ?_) (fun h19 => ?_)
  · refine aw_aload3 25 dX11_coarse_25 ?_
    refine aw_get 26 dX11_coarse_26 ckF_RX11_147_3 (hC.pc p hp).2.2.2.1 ((hC.pc p hp).2.2.2.2.2.2.2.2.1.trans (if_neg hno)) ?_
    refine aw_ifnonnull 29 37 dX11_coarse_29 (by decide) ?_
    refine aw_aload3 37 dX11_coarse_37 ?_
    refine aw_get 38 dX11_coarse_38 ckF_RX11_147_3 (hC.pc p hp).2.2.2.1 ((hC.pc p hp).2.2.2.2.2.2.2.2.1.trans (if_neg hno)) ?_
    refine aw_get 41 dX11_coarse_41 ckF_RX11_207_7 hN.2.1 hN.2.2.2.1 ?_
    refine aw_iload2 44 dX11_coarse_44 ?_
    refine aw_idiv 45 dX11_coarse_45 (irg_ne0 hw) ?_
    refine aw_iload2 46 dX11_coarse_46 ?_
    refine aw_imul 47 dX11_coarse_47 ?_
    refine aw_iret 48 dX11_coarse_48 rfl (Nat.zero_le _) (Nat.zero_le _) ?_
    exact ⟨rfl, hR, α, hC⟩
  · exact absurd hw h19

set_option maxHeartbeats 4000000 in
set_option maxRecDepth 100000 in
theorem c1_X11_coarse {M0 : Mem} {τ : TT} {α : AT} {p : Nat} {w : Int32} (hC : CW τ α M0) (hp : p < nP τ) (hw : irg w 1 24) (hN : NC1 τ α M0 p) : CK mX11_coarse rmX11_coarse [.int (nI p), .int w] M0 (.int (τ 18 p / w * w)) (τ) := by
  refine am_of rfl rfl (ls := [some (.ref 2), some (.int (nI p)), some (.int w), none]) rfl ?_
  suffices HH : ∀ M, (CW τ α M) → (Kr M0 M) → (NC1 τ α M p) → AW mX11_coarse rmX11_coarse (fun r' M' => r' = (some (.int (τ 18 p / w * w))) ∧ (fun M2 => Kr M0 M2 ∧ ∃ α2, CW (τ) α2 M2) M') 0 [some (.ref 2), some (.int (nI p)), some (.int w), none] [] M 0 0 from HH M0 hC (Kr.rf _) hN
  intro M hC hR hN
  have hno : ¬ τ 16 p < 0 := by rw [hN.1]; decide
  have hln := hC.ln hp hno
  have hnc := hC.nc p hp hno
  refine aw_aload0 0 dX11_coarse_0 ?_
  refine aw_iload1 1 dX11_coarse_1 ?_
  refine cr_v1 2 dX11_coarse_2 (c_X11_pictureAt hC hp) ckV_RX11_106 cd_X11_pictureAt hC.xo.1 vc11 rfl rfl (Nat.le_of_ble_eq_true rfl) ⟨⟨by decide, by decide⟩, by decide, by decide⟩ rfl ?_
  refine aw_astore3 5 dX11_coarse_5 rfl ?_
  refine aw_aload3 6 dX11_coarse_6 ?_
  refine aw_ifnonnull 7 12 dX11_coarse_7 (by decide) ?_
  refine aw_iload2 12 dX11_coarse_12 ?_
  refine aw_ic1 13 dX11_coarse_13 ?_
  refine aw_bipush 14 24 dX11_coarse_14 (by decide) ?_
  refine cr_s1 16 dX11_coarse_16 (cr_sd (c_isInZ (1) (24) (by decide) (by decide))) ckS_RX11_72 cd_X11_isIn rfl (Nat.le_of_ble_eq_true rfl) ⟨⟨by decide, by decide⟩, by decide, by decide⟩ rfl ?_
  refine aw_ifne_b 19 25 dX11_coarse_19 (by decide) (fun h19 => ?_) (fun h19 => ?_)
  · refine aw_aload3 25 dX11_coarse_25 ?_
    refine aw_get 26 dX11_coarse_26 ckF_RX11_147_3 (hC.pc p hp).2.2.2.1 ((hC.pc p hp).2.2.2.2.2.2.2.2.1.trans (if_neg hno)) ?_
    refine aw_ifnonnull 29 37 dX11_coarse_29 (by decide) ?_
    refine aw_aload3 37 dX11_coarse_37 ?_
    refine aw_get 38 dX11_coarse_38 ckF_RX11_147_3 (hC.pc p hp).2.2.2.1 ((hC.pc p hp).2.2.2.2.2.2.2.2.1.trans (if_neg hno)) ?_
    refine aw_get 41 dX11_coarse_41 ckF_RX11_207_0 hN.2.1 hN.2.2.2.1 ?_
    refine aw_iload2 44 dX11_coarse_44 ?_
    refine aw_idiv 45 dX11_coarse_45 (irg_ne0 hw) ?_
    refine aw_iload2 46 dX11_coarse_46 ?_
    refine aw_imul 47 dX11_coarse_47 ?_
    refine aw_iret 48 dX11_coarse_48 rfl (Nat.zero_le _) (Nat.zero_le _) ?_
    exact ⟨rfl, hR, α, hC⟩
  · exact absurd hw h19

set_option maxHeartbeats 4000000 in
set_option maxRecDepth 100000 in
theorem c2_X11_coarse {M0 : Mem} {τ : TT} {α : AT} {p : Nat} {w : Int32} (hC : CW τ α M0) (hp : p < nP τ) (hw : irg w 1 24) (hN : NC2 τ α M0 p) : CK mX11_coarse rmX11_coarse [.int (nI p), .int w] M0 (.int (τ 18 p / w * w)) (τ) := by
  refine am_of rfl rfl (ls := [some (.ref 2), some (.int (nI p)), some (.int w), none]) rfl ?_
  suffices HH : ∀ M, (CW τ α M) → (Kr M0 M) → (NC2 τ α M p) → AW mX11_coarse rmX11_coarse (fun r' M' => r' = (some (.int (τ 18 p / w * w))) ∧ (fun M2 => Kr M0 M2 ∧ ∃ α2, CW (τ) α2 M2) M') 0 [some (.ref 2), some (.int (nI p)), some (.int w), none] [] M 0 0 from HH M0 hC (Kr.rf _) hN
  intro M hC hR hN
  have hno : ¬ τ 16 p < 0 := by rw [hN.1]; decide
  have hln := hC.ln hp hno
  have hnc := hC.nc p hp hno
  refine aw_aload0 0 dX11_coarse_0 ?_
  refine aw_iload1 1 dX11_coarse_1 ?_
  refine cr_v1 2 dX11_coarse_2 (c_X11_pictureAt hC hp) ckV_RX11_106 cd_X11_pictureAt hC.xo.1 vc11 rfl rfl (Nat.le_of_ble_eq_true rfl) ⟨⟨by decide, by decide⟩, by decide, by decide⟩ rfl ?_
  refine aw_astore3 5 dX11_coarse_5 rfl ?_
  refine aw_aload3 6 dX11_coarse_6 ?_
  refine aw_ifnonnull 7 12 dX11_coarse_7 (by decide) ?_
  refine aw_iload2 12 dX11_coarse_12 ?_
  refine aw_ic1 13 dX11_coarse_13 ?_
  refine aw_bipush 14 24 dX11_coarse_14 (by decide) ?_
  refine cr_s1 16 dX11_coarse_16 (cr_sd (c_isInZ (1) (24) (by decide) (by decide))) ckS_RX11_72 cd_X11_isIn rfl (Nat.le_of_ble_eq_true rfl) ⟨⟨by decide, by decide⟩, by decide, by decide⟩ rfl ?_
  refine aw_ifne_b 19 25 dX11_coarse_19 (by decide) (fun h19 => ?_) (fun h19 => ?_)
  · refine aw_aload3 25 dX11_coarse_25 ?_
    refine aw_get 26 dX11_coarse_26 ckF_RX11_147_3 (hC.pc p hp).2.2.2.1 ((hC.pc p hp).2.2.2.2.2.2.2.2.1.trans (if_neg hno)) ?_
    refine aw_ifnonnull 29 37 dX11_coarse_29 (by decide) ?_
    refine aw_aload3 37 dX11_coarse_37 ?_
    refine aw_get 38 dX11_coarse_38 ckF_RX11_147_3 (hC.pc p hp).2.2.2.1 ((hC.pc p hp).2.2.2.2.2.2.2.2.1.trans (if_neg hno)) ?_
    refine aw_get 41 dX11_coarse_41 ckF_RX11_207_6 hN.2.1 hN.2.2.2.1 ?_
    refine aw_iload2 44 dX11_coarse_44 ?_
    refine aw_idiv 45 dX11_coarse_45 (irg_ne0 hw) ?_
    refine aw_iload2 46 dX11_coarse_46 ?_
    refine aw_imul 47 dX11_coarse_47 ?_
    refine aw_iret 48 dX11_coarse_48 rfl (Nat.zero_le _) (Nat.zero_le _) ?_
    exact ⟨rfl, hR, α, hC⟩
  · exact absurd hw h19

def rmX11_tell : Room := { frames := 5, cells := 0, slots := 0, locals := 105 }
set_option maxHeartbeats 4000000 in
set_option maxRecDepth 100000 in
theorem n_X11_tell {M0 : Mem} {τ : TT} {α : AT} {v : Int32} (hC : CW τ α M0) (hno : ¬ ir v (nP τ)) : CK mX11_tell rmX11_tell [.int v] M0 (.int (-1)) (τ) := by
  refine am_of rfl rfl (ls := [some (.ref 2), some (.int v), none]) rfl ?_
  suffices HH : ∀ M, (CW τ α M) → (Kr M0 M) → AW mX11_tell rmX11_tell (fun r' M' => r' = (some (.int (-1))) ∧ (fun M2 => Kr M0 M2 ∧ ∃ α2, CW (τ) α2 M2) M') 0 [some (.ref 2), some (.int v), none] [] M 0 0 from HH M0 hC (Kr.rf _)
  intro M hC hR
  refine aw_aload0 0 dX11_tell_0 ?_
  refine aw_iload1 1 dX11_tell_1 ?_
  refine cr_v1 2 dX11_tell_2 (n_X11_pictureAt hC hno) ckV_RX11_106 cd_X11_pictureAt hC.xo.1 vc11 rfl rfl (Nat.le_of_ble_eq_true rfl) ⟨⟨by decide, by decide⟩, by decide, by decide⟩ rfl ?_
  refine aw_astoreN2 5 dX11_tell_5 rfl ?_
  refine aw_aloadN2 6 dX11_tell_6 ?_
  refine aw_ifnonnullN 7 dX11_tell_7 ?_
  refine aw_icm1 10 dX11_tell_10 ?_
  refine aw_iret 11 dX11_tell_11 rfl (Nat.zero_le _) (Nat.zero_le _) ?_
  exact ⟨rfl, hR, α, hC⟩

set_option maxHeartbeats 4000000 in
set_option maxRecDepth 100000 in
theorem n3_X11_tell {M0 : Mem} {τ : TT} {α : AT} {p : Nat} (hC : CW τ α M0) (hp : p < nP τ) (hno : τ 16 p < 0) : CK mX11_tell rmX11_tell [.int (nI p)] M0 (.int (-3)) (τ) := by
  refine am_of rfl rfl (ls := [some (.ref 2), some (.int (nI p)), none]) rfl ?_
  suffices HH : ∀ M, (CW τ α M) → (Kr M0 M) → AW mX11_tell rmX11_tell (fun r' M' => r' = (some (.int (-3))) ∧ (fun M2 => Kr M0 M2 ∧ ∃ α2, CW (τ) α2 M2) M') 0 [some (.ref 2), some (.int (nI p)), none] [] M 0 0 from HH M0 hC (Kr.rf _)
  intro M hC hR
  refine aw_aload0 0 dX11_tell_0 ?_
  refine aw_iload1 1 dX11_tell_1 ?_
  refine cr_v1 2 dX11_tell_2 (c_X11_pictureAt hC hp) ckV_RX11_106 cd_X11_pictureAt hC.xo.1 vc11 rfl rfl (Nat.le_of_ble_eq_true rfl) ⟨⟨by decide, by decide⟩, by decide, by decide⟩ rfl ?_
  refine aw_astore2 5 dX11_tell_5 rfl ?_
  refine aw_aload2 6 dX11_tell_6 ?_
  refine aw_ifnonnull 7 12 dX11_tell_7 (by decide) ?_
  refine aw_aload2 12 dX11_tell_12 ?_
  refine aw_get 13 dX11_tell_13 ckF_RX11_147_3 (hC.pc p hp).2.2.2.1 ((hC.pc p hp).2.2.2.2.2.2.2.2.1.trans (if_pos hno)) ?_
  refine aw_ifnonnullN 16 dX11_tell_16 ?_
  refine aw_bipush 19 (-3) dX11_tell_19 (by decide) ?_
  refine aw_goto 21 35 dX11_tell_21 (by decide) ?_
  refine aw_iret 35 dX11_tell_35 rfl (Nat.zero_le _) (Nat.zero_le _) ?_
  exact ⟨rfl, hR, α, hC⟩

set_option maxHeartbeats 4000000 in
set_option maxRecDepth 100000 in
theorem c0_X11_tell {M0 : Mem} {τ : TT} {α : AT} {p : Nat} (hC : CW τ α M0) (hp : p < nP τ) (hN : NC0 τ α M0 p) : CK mX11_tell rmX11_tell [.int (nI p)] M0 (.int (τ 18 p)) (trc τ 1) := by
  refine am_of rfl rfl (ls := [some (.ref 2), some (.int (nI p)), none]) rfl ?_
  suffices HH : ∀ M, (CW τ α M) → (Kr M0 M) → (NC0 τ α M p) → AW mX11_tell rmX11_tell (fun r' M' => r' = (some (.int (τ 18 p))) ∧ (fun M2 => Kr M0 M2 ∧ ∃ α2, CW (trc τ 1) α2 M2) M') 0 [some (.ref 2), some (.int (nI p)), none] [] M 0 0 from HH M0 hC (Kr.rf _) hN
  intro M hC hR hN
  have hno : ¬ τ 16 p < 0 := by rw [hN.1]; decide
  have hln := hC.ln hp hno
  have hnc := hC.nc p hp hno
  refine aw_aload0 0 dX11_tell_0 ?_
  refine aw_iload1 1 dX11_tell_1 ?_
  refine cr_v1 2 dX11_tell_2 (c_X11_pictureAt hC hp) ckV_RX11_106 cd_X11_pictureAt hC.xo.1 vc11 rfl rfl (Nat.le_of_ble_eq_true rfl) ⟨⟨by decide, by decide⟩, by decide, by decide⟩ rfl ?_
  refine aw_astore2 5 dX11_tell_5 rfl ?_
  refine aw_aload2 6 dX11_tell_6 ?_
  refine aw_ifnonnull 7 12 dX11_tell_7 (by decide) ?_
  refine aw_aload2 12 dX11_tell_12 ?_
  refine aw_get 13 dX11_tell_13 ckF_RX11_147_3 (hC.pc p hp).2.2.2.1 ((hC.pc p hp).2.2.2.2.2.2.2.2.1.trans (if_neg hno)) ?_
  refine aw_ifnonnull 16 24 dX11_tell_16 (by decide) ?_
  refine aw_aload2 24 dX11_tell_24 ?_
  refine aw_get 25 dX11_tell_25 ckF_RX11_147_3 (hC.pc p hp).2.2.2.1 ((hC.pc p hp).2.2.2.2.2.2.2.2.1.trans (if_neg hno)) ?_
  refine aw_aload0 28 dX11_tell_28 ?_
  refine aw_get 29 dX11_tell_29 ckF_RX11_59_11 hC.xo.1 hC.xo.2.2.2.2.2.2.2.2.1 ?_
  refine ap_u1 (rr := (RX7, TX7, 3)) (owner := RX7) (y := ⟨RX7, "telling", "(LPicturePapers$Trace;)I"⟩) 32 dX11_tell_32 (c7_X7_telling hN.2.1 hN.2.2.2.1 hC.tv (by have := hnc.1; omega)) ckU_RX11_311_7 cd_X7_telling cd_X7_telling hN.2.1 vc7 rfl (Nat.le_of_ble_eq_true rfl) ⟨⟨by decide, by decide⟩, by decide, by decide⟩ rfl (fun M hq => ?_)
  replace hR := hR.trans (hq.toWd.kp.kr hC.m1 (fun b q => by omega))
  replace hC := hC.trw hq
  refine aw_iret 35 dX11_tell_35 rfl (Nat.zero_le _) (Nat.zero_le _) ?_
  exact ⟨rfl, hR, α, hC⟩

set_option maxHeartbeats 4000000 in
set_option maxRecDepth 100000 in
theorem c1_X11_tell {M0 : Mem} {τ : TT} {α : AT} {p : Nat} (hC : CW τ α M0) (hp : p < nP τ) (hN : NC1 τ α M0 p) : CK mX11_tell rmX11_tell [.int (nI p)] M0 (.int (τ 18 p + 1000)) (trc (trc τ 2) 1) := by
  refine am_of rfl rfl (ls := [some (.ref 2), some (.int (nI p)), none]) rfl ?_
  suffices HH : ∀ M, (CW τ α M) → (Kr M0 M) → (NC1 τ α M p) → AW mX11_tell rmX11_tell (fun r' M' => r' = (some (.int (τ 18 p + 1000))) ∧ (fun M2 => Kr M0 M2 ∧ ∃ α2, CW (trc (trc τ 2) 1) α2 M2) M') 0 [some (.ref 2), some (.int (nI p)), none] [] M 0 0 from HH M0 hC (Kr.rf _) hN
  intro M hC hR hN
  have hno : ¬ τ 16 p < 0 := by rw [hN.1]; decide
  have hln := hC.ln hp hno
  have hnc := hC.nc p hp hno
  refine aw_aload0 0 dX11_tell_0 ?_
  refine aw_iload1 1 dX11_tell_1 ?_
  refine cr_v1 2 dX11_tell_2 (c_X11_pictureAt hC hp) ckV_RX11_106 cd_X11_pictureAt hC.xo.1 vc11 rfl rfl (Nat.le_of_ble_eq_true rfl) ⟨⟨by decide, by decide⟩, by decide, by decide⟩ rfl ?_
  refine aw_astore2 5 dX11_tell_5 rfl ?_
  refine aw_aload2 6 dX11_tell_6 ?_
  refine aw_ifnonnull 7 12 dX11_tell_7 (by decide) ?_
  refine aw_aload2 12 dX11_tell_12 ?_
  refine aw_get 13 dX11_tell_13 ckF_RX11_147_3 (hC.pc p hp).2.2.2.1 ((hC.pc p hp).2.2.2.2.2.2.2.2.1.trans (if_neg hno)) ?_
  refine aw_ifnonnull 16 24 dX11_tell_16 (by decide) ?_
  refine aw_aload2 24 dX11_tell_24 ?_
  refine aw_get 25 dX11_tell_25 ckF_RX11_147_3 (hC.pc p hp).2.2.2.1 ((hC.pc p hp).2.2.2.2.2.2.2.2.1.trans (if_neg hno)) ?_
  refine aw_aload0 28 dX11_tell_28 ?_
  refine aw_get 29 dX11_tell_29 ckF_RX11_59_11 hC.xo.1 hC.xo.2.2.2.2.2.2.2.2.1 ?_
  refine ap_u1 (rr := (RX0, TX0, 5)) (owner := RX7) (y := ⟨RX7, "telling", "(LPicturePapers$Trace;)I"⟩) 32 dX11_tell_32 (c0_X0_telling hN.2.1 hN.2.2.2.1 hC.tv (by have := hnc.1; omega)) ckU_RX11_311_0 cd_X0_telling cd_X7_telling hN.2.1 vc0 rfl (Nat.le_of_ble_eq_true rfl) ⟨⟨by decide, by decide⟩, by decide, by decide⟩ rfl (fun M hq => ?_)
  replace hR := hR.trans (hq.toWd.kp.kr hC.m1 (fun b q => by omega))
  replace hC := hC.trw hq
  refine aw_iret 35 dX11_tell_35 rfl (Nat.zero_le _) (Nat.zero_le _) ?_
  refine ⟨rfl, hR, α, ?_⟩
  unfold trc
  rw [tu_ch, tu_at]
  exact hC

set_option maxHeartbeats 4000000 in
set_option maxRecDepth 100000 in
theorem c2_X11_tell {M0 : Mem} {τ : TT} {α : AT} {p : Nat} (hC : CW τ α M0) (hp : p < nP τ) (hN : NC2 τ α M0 p) : CK mX11_tell rmX11_tell [.int (nI p)] M0 (.int (2 * τ 18 p + 1000)) (trc (trc (trc (trc τ 3) 2) 1) 1) := by
  refine am_of rfl rfl (ls := [some (.ref 2), some (.int (nI p)), none]) rfl ?_
  suffices HH : ∀ M, (CW τ α M) → (Kr M0 M) → (NC2 τ α M p) → AW mX11_tell rmX11_tell (fun r' M' => r' = (some (.int (2 * τ 18 p + 1000))) ∧ (fun M2 => Kr M0 M2 ∧ ∃ α2, CW (trc (trc (trc (trc τ 3) 2) 1) 1) α2 M2) M') 0 [some (.ref 2), some (.int (nI p)), none] [] M 0 0 from HH M0 hC (Kr.rf _) hN
  intro M hC hR hN
  have hno : ¬ τ 16 p < 0 := by rw [hN.1]; decide
  have hln := hC.ln hp hno
  have hnc := hC.nc p hp hno
  refine aw_aload0 0 dX11_tell_0 ?_
  refine aw_iload1 1 dX11_tell_1 ?_
  refine cr_v1 2 dX11_tell_2 (c_X11_pictureAt hC hp) ckV_RX11_106 cd_X11_pictureAt hC.xo.1 vc11 rfl rfl (Nat.le_of_ble_eq_true rfl) ⟨⟨by decide, by decide⟩, by decide, by decide⟩ rfl ?_
  refine aw_astore2 5 dX11_tell_5 rfl ?_
  refine aw_aload2 6 dX11_tell_6 ?_
  refine aw_ifnonnull 7 12 dX11_tell_7 (by decide) ?_
  refine aw_aload2 12 dX11_tell_12 ?_
  refine aw_get 13 dX11_tell_13 ckF_RX11_147_3 (hC.pc p hp).2.2.2.1 ((hC.pc p hp).2.2.2.2.2.2.2.2.1.trans (if_neg hno)) ?_
  refine aw_ifnonnull 16 24 dX11_tell_16 (by decide) ?_
  refine aw_aload2 24 dX11_tell_24 ?_
  refine aw_get 25 dX11_tell_25 ckF_RX11_147_3 (hC.pc p hp).2.2.2.1 ((hC.pc p hp).2.2.2.2.2.2.2.2.1.trans (if_neg hno)) ?_
  refine aw_aload0 28 dX11_tell_28 ?_
  refine aw_get 29 dX11_tell_29 ckF_RX11_59_11 hC.xo.1 hC.xo.2.2.2.2.2.2.2.2.1 ?_
  refine ap_u1 (rr := (RX6, TX6, 5)) (owner := RX7) (y := ⟨RX7, "telling", "(LPicturePapers$Trace;)I"⟩) 32 dX11_tell_32 (c_X6_telling hN.2.1 hN.2.2.2.1 hC.tv (by have := hnc.1; omega)) ckU_RX11_311_6 cd_X6_telling cd_X7_telling hN.2.1 vc6 rfl (Nat.le_of_ble_eq_true rfl) ⟨⟨by decide, by decide⟩, by decide, by decide⟩ rfl (fun M hq => ?_)
  replace hR := hR.trans (hq.toWd.kp.kr hC.m1 (fun b q => by omega))
  replace hC := hC.trw hq
  refine aw_iret 35 dX11_tell_35 rfl (Nat.zero_le _) (Nat.zero_le _) ?_
  refine ⟨?_, hR, α, ?_⟩
  · obtain ⟨h, h1, h2⟩ := hln.2.2.2
    rw [h2, show (1000 : Int32) = nI 1000 from rfl, show (2 : Int32) = nI 2 from rfl, nI_add, nI_add, pk_mul, nI_add, show h + 1000 + h = 2 * h + 1000 by omega]
  · unfold trc
    rw [tu_ch, tu_ch, tu_ch, tu_at, tu_at, tu_at]
    exact hC

def rmX11_show : Room := { frames := 2, cells := 0, slots := 0, locals := 43 }
set_option maxHeartbeats 4000000 in
set_option maxRecDepth 100000 in
theorem n_X11_show {M0 : Mem} {τ : TT} {α : AT} {v : Int32} (hC : CW τ α M0) (hno : ¬ ir v (nP τ)) : CK mX11_show rmX11_show [.int v] M0 (.int (-1)) (τ) := by
  refine am_of rfl rfl (ls := [some (.ref 2), some (.int v), none]) rfl ?_
  suffices HH : ∀ M, (CW τ α M) → (Kr M0 M) → AW mX11_show rmX11_show (fun r' M' => r' = (some (.int (-1))) ∧ (fun M2 => Kr M0 M2 ∧ ∃ α2, CW (τ) α2 M2) M') 0 [some (.ref 2), some (.int v), none] [] M 0 0 from HH M0 hC (Kr.rf _)
  intro M hC hR
  refine aw_aload0 0 dX11_show_0 ?_
  refine aw_iload1 1 dX11_show_1 ?_
  refine cr_v1 2 dX11_show_2 (n_X11_pictureAt hC hno) ckV_RX11_106 cd_X11_pictureAt hC.xo.1 vc11 rfl rfl (Nat.le_of_ble_eq_true rfl) ⟨⟨by decide, by decide⟩, by decide, by decide⟩ rfl ?_
  refine aw_astoreN2 5 dX11_show_5 rfl ?_
  refine aw_aloadN2 6 dX11_show_6 ?_
  refine aw_ifnonnullN 7 dX11_show_7 ?_
  refine aw_icm1 10 dX11_show_10 ?_
  refine aw_iret 11 dX11_show_11 rfl (Nat.zero_le _) (Nat.zero_le _) ?_
  exact ⟨rfl, hR, α, hC⟩

set_option maxHeartbeats 4000000 in
set_option maxRecDepth 100000 in
theorem n3_X11_show {M0 : Mem} {τ : TT} {α : AT} {p : Nat} (hC : CW τ α M0) (hp : p < nP τ) (hno : τ 16 p < 0) : CK mX11_show rmX11_show [.int (nI p)] M0 (.int (-3)) (τ) := by
  refine am_of rfl rfl (ls := [some (.ref 2), some (.int (nI p)), none]) rfl ?_
  suffices HH : ∀ M, (CW τ α M) → (Kr M0 M) → AW mX11_show rmX11_show (fun r' M' => r' = (some (.int (-3))) ∧ (fun M2 => Kr M0 M2 ∧ ∃ α2, CW (τ) α2 M2) M') 0 [some (.ref 2), some (.int (nI p)), none] [] M 0 0 from HH M0 hC (Kr.rf _)
  intro M hC hR
  refine aw_aload0 0 dX11_show_0 ?_
  refine aw_iload1 1 dX11_show_1 ?_
  refine cr_v1 2 dX11_show_2 (c_X11_pictureAt hC hp) ckV_RX11_106 cd_X11_pictureAt hC.xo.1 vc11 rfl rfl (Nat.le_of_ble_eq_true rfl) ⟨⟨by decide, by decide⟩, by decide, by decide⟩ rfl ?_
  refine aw_astore2 5 dX11_show_5 rfl ?_
  refine aw_aload2 6 dX11_show_6 ?_
  refine aw_ifnonnull 7 12 dX11_show_7 (by decide) ?_
  refine aw_aload2 12 dX11_show_12 ?_
  refine aw_get 13 dX11_show_13 ckF_RX11_147_3 (hC.pc p hp).2.2.2.1 ((hC.pc p hp).2.2.2.2.2.2.2.2.1.trans (if_pos hno)) ?_
  refine aw_ifnonnullN 16 dX11_show_16 ?_
  refine aw_bipush 19 (-3) dX11_show_19 (by decide) ?_
  refine aw_goto 21 35 dX11_show_21 (by decide) ?_
  refine aw_iret 35 dX11_show_35 rfl (Nat.zero_le _) (Nat.zero_le _) ?_
  exact ⟨rfl, hR, α, hC⟩

set_option maxHeartbeats 4000000 in
set_option maxRecDepth 100000 in
theorem c0_X11_show {M0 : Mem} {τ : TT} {α : AT} {p : Nat} (hC : CW τ α M0) (hp : p < nP τ) (hN : NC0 τ α M0 p) : CK mX11_show rmX11_show [.int (nI p)] M0 (.int (τ 19 p)) (trc τ 4) := by
  refine am_of rfl rfl (ls := [some (.ref 2), some (.int (nI p)), none]) rfl ?_
  suffices HH : ∀ M, (CW τ α M) → (Kr M0 M) → (NC0 τ α M p) → AW mX11_show rmX11_show (fun r' M' => r' = (some (.int (τ 19 p))) ∧ (fun M2 => Kr M0 M2 ∧ ∃ α2, CW (trc τ 4) α2 M2) M') 0 [some (.ref 2), some (.int (nI p)), none] [] M 0 0 from HH M0 hC (Kr.rf _) hN
  intro M hC hR hN
  have hno : ¬ τ 16 p < 0 := by rw [hN.1]; decide
  have hln := hC.ln hp hno
  have hnc := hC.nc p hp hno
  refine aw_aload0 0 dX11_show_0 ?_
  refine aw_iload1 1 dX11_show_1 ?_
  refine cr_v1 2 dX11_show_2 (c_X11_pictureAt hC hp) ckV_RX11_106 cd_X11_pictureAt hC.xo.1 vc11 rfl rfl (Nat.le_of_ble_eq_true rfl) ⟨⟨by decide, by decide⟩, by decide, by decide⟩ rfl ?_
  refine aw_astore2 5 dX11_show_5 rfl ?_
  refine aw_aload2 6 dX11_show_6 ?_
  refine aw_ifnonnull 7 12 dX11_show_7 (by decide) ?_
  refine aw_aload2 12 dX11_show_12 ?_
  refine aw_get 13 dX11_show_13 ckF_RX11_147_3 (hC.pc p hp).2.2.2.1 ((hC.pc p hp).2.2.2.2.2.2.2.2.1.trans (if_neg hno)) ?_
  refine aw_ifnonnull 16 24 dX11_show_16 (by decide) ?_
  refine aw_aload2 24 dX11_show_24 ?_
  refine aw_get 25 dX11_show_25 ckF_RX11_147_3 (hC.pc p hp).2.2.2.1 ((hC.pc p hp).2.2.2.2.2.2.2.2.1.trans (if_neg hno)) ?_
  refine aw_aload0 28 dX11_show_28 ?_
  refine aw_get 29 dX11_show_29 ckF_RX11_59_11 hC.xo.1 hC.xo.2.2.2.2.2.2.2.2.1 ?_
  refine ap_u1 (rr := (RX7, TX7, 3)) (owner := RX7) (y := ⟨RX7, "showing", "(LPicturePapers$Trace;)I"⟩) 32 dX11_show_32 (c7_X7_showing hN.2.1 hN.2.2.2.2.1 hC.tv (by have := hnc.1; omega)) ckU_RX11_315_7 cd_X7_showing cd_X7_showing hN.2.1 vc7 rfl (Nat.le_of_ble_eq_true rfl) ⟨⟨by decide, by decide⟩, by decide, by decide⟩ rfl (fun M hq => ?_)
  replace hR := hR.trans (hq.toWd.kp.kr hC.m1 (fun b q => by omega))
  replace hC := hC.trw hq
  refine aw_iret 35 dX11_show_35 rfl (Nat.zero_le _) (Nat.zero_le _) ?_
  exact ⟨rfl, hR, α, hC⟩

set_option maxHeartbeats 4000000 in
set_option maxRecDepth 100000 in
theorem c1_X11_show {M0 : Mem} {τ : TT} {α : AT} {p : Nat} (hC : CW τ α M0) (hp : p < nP τ) (hN : NC1 τ α M0 p) : CK mX11_show rmX11_show [.int (nI p)] M0 (.int (τ 19 p)) (trc τ 4) := by
  refine am_of rfl rfl (ls := [some (.ref 2), some (.int (nI p)), none]) rfl ?_
  suffices HH : ∀ M, (CW τ α M) → (Kr M0 M) → (NC1 τ α M p) → AW mX11_show rmX11_show (fun r' M' => r' = (some (.int (τ 19 p))) ∧ (fun M2 => Kr M0 M2 ∧ ∃ α2, CW (trc τ 4) α2 M2) M') 0 [some (.ref 2), some (.int (nI p)), none] [] M 0 0 from HH M0 hC (Kr.rf _) hN
  intro M hC hR hN
  have hno : ¬ τ 16 p < 0 := by rw [hN.1]; decide
  have hln := hC.ln hp hno
  have hnc := hC.nc p hp hno
  refine aw_aload0 0 dX11_show_0 ?_
  refine aw_iload1 1 dX11_show_1 ?_
  refine cr_v1 2 dX11_show_2 (c_X11_pictureAt hC hp) ckV_RX11_106 cd_X11_pictureAt hC.xo.1 vc11 rfl rfl (Nat.le_of_ble_eq_true rfl) ⟨⟨by decide, by decide⟩, by decide, by decide⟩ rfl ?_
  refine aw_astore2 5 dX11_show_5 rfl ?_
  refine aw_aload2 6 dX11_show_6 ?_
  refine aw_ifnonnull 7 12 dX11_show_7 (by decide) ?_
  refine aw_aload2 12 dX11_show_12 ?_
  refine aw_get 13 dX11_show_13 ckF_RX11_147_3 (hC.pc p hp).2.2.2.1 ((hC.pc p hp).2.2.2.2.2.2.2.2.1.trans (if_neg hno)) ?_
  refine aw_ifnonnull 16 24 dX11_show_16 (by decide) ?_
  refine aw_aload2 24 dX11_show_24 ?_
  refine aw_get 25 dX11_show_25 ckF_RX11_147_3 (hC.pc p hp).2.2.2.1 ((hC.pc p hp).2.2.2.2.2.2.2.2.1.trans (if_neg hno)) ?_
  refine aw_aload0 28 dX11_show_28 ?_
  refine aw_get 29 dX11_show_29 ckF_RX11_59_11 hC.xo.1 hC.xo.2.2.2.2.2.2.2.2.1 ?_
  refine ap_u1 (rr := (RX0, TX0, 5)) (owner := RX7) (y := ⟨RX7, "showing", "(LPicturePapers$Trace;)I"⟩) 32 dX11_show_32 (c0_X7_showing hN.2.1 hN.2.2.2.2.1 hC.tv (by have := hnc.1; omega)) ckU_RX11_315_0 cd_X7_showing cd_X7_showing hN.2.1 vc0 rfl (Nat.le_of_ble_eq_true rfl) ⟨⟨by decide, by decide⟩, by decide, by decide⟩ rfl (fun M hq => ?_)
  replace hR := hR.trans (hq.toWd.kp.kr hC.m1 (fun b q => by omega))
  replace hC := hC.trw hq
  refine aw_iret 35 dX11_show_35 rfl (Nat.zero_le _) (Nat.zero_le _) ?_
  exact ⟨rfl, hR, α, hC⟩

set_option maxHeartbeats 4000000 in
set_option maxRecDepth 100000 in
theorem c2_X11_show {M0 : Mem} {τ : TT} {α : AT} {p : Nat} (hC : CW τ α M0) (hp : p < nP τ) (hN : NC2 τ α M0 p) : CK mX11_show rmX11_show [.int (nI p)] M0 (.int 33) (trc τ 5) := by
  refine am_of rfl rfl (ls := [some (.ref 2), some (.int (nI p)), none]) rfl ?_
  suffices HH : ∀ M, (CW τ α M) → (Kr M0 M) → (NC2 τ α M p) → AW mX11_show rmX11_show (fun r' M' => r' = (some (.int 33)) ∧ (fun M2 => Kr M0 M2 ∧ ∃ α2, CW (trc τ 5) α2 M2) M') 0 [some (.ref 2), some (.int (nI p)), none] [] M 0 0 from HH M0 hC (Kr.rf _) hN
  intro M hC hR hN
  have hno : ¬ τ 16 p < 0 := by rw [hN.1]; decide
  have hln := hC.ln hp hno
  have hnc := hC.nc p hp hno
  refine aw_aload0 0 dX11_show_0 ?_
  refine aw_iload1 1 dX11_show_1 ?_
  refine cr_v1 2 dX11_show_2 (c_X11_pictureAt hC hp) ckV_RX11_106 cd_X11_pictureAt hC.xo.1 vc11 rfl rfl (Nat.le_of_ble_eq_true rfl) ⟨⟨by decide, by decide⟩, by decide, by decide⟩ rfl ?_
  refine aw_astore2 5 dX11_show_5 rfl ?_
  refine aw_aload2 6 dX11_show_6 ?_
  refine aw_ifnonnull 7 12 dX11_show_7 (by decide) ?_
  refine aw_aload2 12 dX11_show_12 ?_
  refine aw_get 13 dX11_show_13 ckF_RX11_147_3 (hC.pc p hp).2.2.2.1 ((hC.pc p hp).2.2.2.2.2.2.2.2.1.trans (if_neg hno)) ?_
  refine aw_ifnonnull 16 24 dX11_show_16 (by decide) ?_
  refine aw_aload2 24 dX11_show_24 ?_
  refine aw_get 25 dX11_show_25 ckF_RX11_147_3 (hC.pc p hp).2.2.2.1 ((hC.pc p hp).2.2.2.2.2.2.2.2.1.trans (if_neg hno)) ?_
  refine aw_aload0 28 dX11_show_28 ?_
  refine aw_get 29 dX11_show_29 ckF_RX11_59_11 hC.xo.1 hC.xo.2.2.2.2.2.2.2.2.1 ?_
  refine ap_u1 (rr := (RX6, TX6, 5)) (owner := RX7) (y := ⟨RX7, "showing", "(LPicturePapers$Trace;)I"⟩) 32 dX11_show_32 (c_X6_showing hC.tv) ckU_RX11_315_6 cd_X6_showing cd_X7_showing hN.2.1 vc6 rfl (Nat.le_of_ble_eq_true rfl) ⟨⟨by decide, by decide⟩, by decide, by decide⟩ rfl (fun M hq => ?_)
  replace hR := hR.trans (hq.toWd.kp.kr hC.m1 (fun b q => by omega))
  replace hC := hC.trw hq
  refine aw_iret 35 dX11_show_35 rfl (Nat.zero_le _) (Nat.zero_le _) ?_
  exact ⟨rfl, hR, α, hC⟩

def rmX11_as : Room := { frames := 2, cells := 0, slots := 0, locals := 43 }
set_option maxHeartbeats 4000000 in
set_option maxRecDepth 100000 in
theorem n_X11_as {M0 : Mem} {τ : TT} {α : AT} {v v2 : Int32} (hC : CW τ α M0) (hno : ¬ ir v (nP τ)) : CK mX11_as rmX11_as [.int v, .int v2] M0 (.int (-1)) (tu τ 0 0 0) := by
  refine am_of rfl rfl (ls := [some (.ref 2), some (.int v), some (.int v2), none]) rfl ?_
  suffices HH : ∀ M, (CW τ α M) → (Kr M0 M) → AW mX11_as rmX11_as (fun r' M' => r' = (some (.int (-1))) ∧ (fun M2 => Kr M0 M2 ∧ ∃ α2, CW (tu τ 0 0 0) α2 M2) M') 0 [some (.ref 2), some (.int v), some (.int v2), none] [] M 0 0 from HH M0 hC (Kr.rf _)
  intro M hC hR
  refine aw_aload0 0 dX11_as_0 ?_
  refine aw_ic0 1 dX11_as_1 ?_
  refine fp_put 2 dX11_as_2 ckF_RX11_64_11 ckP11_12 hC.xo.1 rfl rfl (fun M hd => ?_)
  replace hR := hR.trans (hd.toWd.kp.kr hC.m1 (fun b q => by omega))
  replace hC := hC.flt hd
  clear hd
  refine aw_aload0 5 dX11_as_5 ?_
  refine aw_iload1 6 dX11_as_6 ?_
  refine cr_v1 7 dX11_as_7 (n_X11_pictureAt hC hno) ckV_RX11_106 cd_X11_pictureAt hC.xo.1 vc11 rfl rfl (Nat.le_of_ble_eq_true rfl) ⟨⟨by decide, by decide⟩, by decide, by decide⟩ rfl ?_
  refine aw_astoreN3 10 dX11_as_10 rfl ?_
  refine aw_aloadN3 11 dX11_as_11 ?_
  refine aw_ifnonnullN 12 dX11_as_12 ?_
  refine aw_icm1 15 dX11_as_15 ?_
  refine aw_iret 16 dX11_as_16 rfl (Nat.zero_le _) (Nat.zero_le _) ?_
  exact ⟨rfl, hR, α, hC⟩

set_option maxHeartbeats 4000000 in
set_option maxRecDepth 100000 in
theorem n2_X11_as {M0 : Mem} {τ : TT} {α : AT} {p : Nat} {w : Int32} (hC : CW τ α M0) (hp : p < nP τ) (hw : ¬ irg w 0 2) : CK mX11_as rmX11_as [.int (nI p), .int w] M0 (.int (-2)) (tu τ 0 0 0) := by
  refine am_of rfl rfl (ls := [some (.ref 2), some (.int (nI p)), some (.int w), none]) rfl ?_
  suffices HH : ∀ M, (CW τ α M) → (Kr M0 M) → AW mX11_as rmX11_as (fun r' M' => r' = (some (.int (-2))) ∧ (fun M2 => Kr M0 M2 ∧ ∃ α2, CW (tu τ 0 0 0) α2 M2) M') 0 [some (.ref 2), some (.int (nI p)), some (.int w), none] [] M 0 0 from HH M0 hC (Kr.rf _)
  intro M hC hR
  refine aw_aload0 0 dX11_as_0 ?_
  refine aw_ic0 1 dX11_as_1 ?_
  refine fp_put 2 dX11_as_2 ckF_RX11_64_11 ckP11_12 hC.xo.1 rfl rfl (fun M hd => ?_)
  replace hR := hR.trans (hd.toWd.kp.kr hC.m1 (fun b q => by omega))
  replace hC := hC.flt hd
  clear hd
  refine aw_aload0 5 dX11_as_5 ?_
  refine aw_iload1 6 dX11_as_6 ?_
  refine cr_v1 7 dX11_as_7 (c_X11_pictureAt hC hp) ckV_RX11_106 cd_X11_pictureAt hC.xo.1 vc11 rfl rfl (Nat.le_of_ble_eq_true rfl) ⟨⟨by decide, by decide⟩, by decide, by decide⟩ rfl ?_
  refine aw_astore3 10 dX11_as_10 rfl ?_
  refine aw_aload3 11 dX11_as_11 ?_
  refine aw_ifnonnull 12 17 dX11_as_12 (by decide) ?_
  refine aw_iload2 17 dX11_as_17 ?_
  refine aw_ic0 18 dX11_as_18 ?_
  refine aw_ic2 19 dX11_as_19 ?_
  refine cr_s1 20 dX11_as_20 (cr_sd (c_isInZ (0) (2) (by decide) (by decide))) ckS_RX11_72 cd_X11_isIn rfl (Nat.le_of_ble_eq_true rfl) ⟨⟨by decide, by decide⟩, by decide, by decide⟩ rfl ?_
  refine aw_ifne_b 23 29 dX11_as_23 (by decide) (fun h23 => ?_) (fun h23 => ?_)
  · exact absurd h23 hw
  · refine aw_bipush 26 (-2) dX11_as_26 (by decide) ?_
    refine aw_iret 28 dX11_as_28 rfl (Nat.zero_le _) (Nat.zero_le _) ?_
    exact ⟨rfl, hR, α, hC⟩

set_option maxHeartbeats 4000000 in
set_option maxRecDepth 100000 in
theorem n3_X11_as {M0 : Mem} {τ : TT} {α : AT} {p : Nat} {w : Int32} (hC : CW τ α M0) (hp : p < nP τ) (hw : irg w 0 2) (hno : τ 16 p < 0) : CK mX11_as rmX11_as [.int (nI p), .int w] M0 (.int (-3)) (tu τ 0 0 0) := by
  refine am_of rfl rfl (ls := [some (.ref 2), some (.int (nI p)), some (.int w), none]) rfl ?_
  suffices HH : ∀ M, (CW τ α M) → (Kr M0 M) → AW mX11_as rmX11_as (fun r' M' => r' = (some (.int (-3))) ∧ (fun M2 => Kr M0 M2 ∧ ∃ α2, CW (tu τ 0 0 0) α2 M2) M') 0 [some (.ref 2), some (.int (nI p)), some (.int w), none] [] M 0 0 from HH M0 hC (Kr.rf _)
  intro M hC hR
  refine aw_aload0 0 dX11_as_0 ?_
  refine aw_ic0 1 dX11_as_1 ?_
  refine fp_put 2 dX11_as_2 ckF_RX11_64_11 ckP11_12 hC.xo.1 rfl rfl (fun M hd => ?_)
  replace hR := hR.trans (hd.toWd.kp.kr hC.m1 (fun b q => by omega))
  replace hC := hC.flt hd
  clear hd
  refine aw_aload0 5 dX11_as_5 ?_
  refine aw_iload1 6 dX11_as_6 ?_
  refine cr_v1 7 dX11_as_7 (c_X11_pictureAt hC hp) ckV_RX11_106 cd_X11_pictureAt hC.xo.1 vc11 rfl rfl (Nat.le_of_ble_eq_true rfl) ⟨⟨by decide, by decide⟩, by decide, by decide⟩ rfl ?_
  refine aw_astore3 10 dX11_as_10 rfl ?_
  refine aw_aload3 11 dX11_as_11 ?_
  refine aw_ifnonnull 12 17 dX11_as_12 (by decide) ?_
  refine aw_iload2 17 dX11_as_17 ?_
  refine aw_ic0 18 dX11_as_18 ?_
  refine aw_ic2 19 dX11_as_19 ?_
  refine cr_s1 20 dX11_as_20 (cr_sd (c_isInZ (0) (2) (by decide) (by decide))) ckS_RX11_72 cd_X11_isIn rfl (Nat.le_of_ble_eq_true rfl) ⟨⟨by decide, by decide⟩, by decide, by decide⟩ rfl ?_
  refine aw_ifne_b 23 29 dX11_as_23 (by decide) (fun h23 => ?_) (fun h23 => ?_)
  · refine aw_aload3 29 dX11_as_29 ?_
    refine aw_get 30 dX11_as_30 ckF_RX11_147_3 (hC.pc p hp).2.2.2.1 ((hC.pc p hp).2.2.2.2.2.2.2.2.1.trans (if_pos hno)) ?_
    refine aw_ifnonnullN 33 dX11_as_33 ?_
    refine aw_bipush 36 (-3) dX11_as_36 (by decide) ?_
    refine aw_iret 38 dX11_as_38 rfl (Nat.zero_le _) (Nat.zero_le _) ?_
    exact ⟨rfl, hR, α, hC⟩
  · exact absurd hw h23

set_option maxHeartbeats 4000000 in
set_option maxRecDepth 100000 in
theorem c0_X11_as {M0 : Mem} {τ : TT} {α : AT} {p : Nat} {w : Int32} (hC : CW τ α M0) (hp : p < nP τ) (hw : irg w 0 2) (hno : ¬ τ 16 p < 0) (hk : M0.2.1 (α 3 p) = (7, 3)) : CK mX11_as rmX11_as [.int (nI p), .int w] M0 (.int (if (0 : Int32) < w then -12 else 1)) (if (0 : Int32) < w then tu τ 0 0 2 else tu τ 0 0 0) := by
  refine am_of rfl rfl (ls := [some (.ref 2), some (.int (nI p)), some (.int w), none]) rfl ?_
  suffices HH : ∀ M, (CW τ α M) → (Kr M0 M) → (M.2.1 (α 3 p) = (7, 3)) → AW mX11_as rmX11_as (fun r' M' => r' = (some (.int (if (0 : Int32) < w then -12 else 1))) ∧ (fun M2 => Kr M0 M2 ∧ ∃ α2, CW (if (0 : Int32) < w then tu τ 0 0 2 else tu τ 0 0 0) α2 M2) M') 0 [some (.ref 2), some (.int (nI p)), some (.int w), none] [] M 0 0 from HH M0 hC (Kr.rf _) hk
  intro M hC hR hk
  refine aw_aload0 0 dX11_as_0 ?_
  refine aw_ic0 1 dX11_as_1 ?_
  refine fp_put 2 dX11_as_2 ckF_RX11_64_11 ckP11_12 hC.xo.1 rfl rfl (fun M hd => ?_)
  replace hR := hR.trans (hd.toWd.kp.kr hC.m1 (fun b q => by omega))
  replace hC := hC.flt hd
  replace hk := (congrFun hd.2.1 _).trans hk
  clear hd
  refine aw_aload0 5 dX11_as_5 ?_
  refine aw_iload1 6 dX11_as_6 ?_
  refine cr_v1 7 dX11_as_7 (c_X11_pictureAt hC hp) ckV_RX11_106 cd_X11_pictureAt hC.xo.1 vc11 rfl rfl (Nat.le_of_ble_eq_true rfl) ⟨⟨by decide, by decide⟩, by decide, by decide⟩ rfl ?_
  refine aw_astore3 10 dX11_as_10 rfl ?_
  refine aw_aload3 11 dX11_as_11 ?_
  refine aw_ifnonnull 12 17 dX11_as_12 (by decide) ?_
  refine aw_iload2 17 dX11_as_17 ?_
  refine aw_ic0 18 dX11_as_18 ?_
  refine aw_ic2 19 dX11_as_19 ?_
  refine cr_s1 20 dX11_as_20 (cr_sd (c_isInZ (0) (2) (by decide) (by decide))) ckS_RX11_72 cd_X11_isIn rfl (Nat.le_of_ble_eq_true rfl) ⟨⟨by decide, by decide⟩, by decide, by decide⟩ rfl ?_
  refine aw_ifne_b 23 29 dX11_as_23 (by decide) (fun h23 => ?_) (fun h23 => ?_)
  · refine aw_aload3 29 dX11_as_29 ?_
    refine aw_get 30 dX11_as_30 ckF_RX11_147_3 (hC.pc p hp).2.2.2.1 ((hC.pc p hp).2.2.2.2.2.2.2.2.1.trans (if_neg hno)) ?_
    refine aw_ifnonnull 33 39 dX11_as_33 (by decide) ?_
    refine aw_aload3 39 dX11_as_39 ?_
    refine aw_get 40 dX11_as_40 ckF_RX11_147_3 (hC.pc p hp).2.2.2.1 ((hC.pc p hp).2.2.2.2.2.2.2.2.1.trans (if_neg hno)) ?_
    refine cr_u1 (rr := (RX7, TX7, 3)) (owner := RX7) (y := ⟨RX7, "kind", "()I"⟩) 43 dX11_as_43 c_X7_kind ckU_RX11_199_7 cd_X7_kind cd_X7_kind hk vc7 rfl (Nat.le_of_ble_eq_true rfl) ⟨⟨by decide, by decide⟩, by decide, by decide⟩ rfl ?_
    refine aw_iload2 46 dX11_as_46 ?_
    refine aw_icmp_ge 47 58 dX11_as_47 (by decide) (fun h47 => ?_) (fun h47 => ?_)
    · rw [if_neg (Int32.not_lt.mpr h47), if_neg (Int32.not_lt.mpr h47)]
      refine aw_ic1 58 dX11_as_58 ?_
      refine aw_iret 59 dX11_as_59 rfl (Nat.zero_le _) (Nat.zero_le _) ?_
      exact ⟨by first | rfl | decide, hR, α, hC⟩
    · rw [if_pos (Int32.not_le.mp h47), if_pos (Int32.not_le.mp h47)]
      refine aw_aload0 50 dX11_as_50 ?_
      refine aw_ic2 51 dX11_as_51 ?_
      refine ap_v1 52 dX11_as_52 (c_X11_failed hC) ckV_RX11_84 cd_X11_failed hC.xo.1 vc11 rfl rfl (Nat.le_of_ble_eq_true rfl) ⟨⟨by decide, by decide⟩, by decide, by decide⟩ rfl (fun M hd => ?_)
      replace hR := hR.trans (hd.toWd.kp.kr hC.m1 (fun b q => by omega))
      replace hC := hC.flt hd
      rw [tu_ch] at hC
      refine aw_goto 55 59 dX11_as_55 (by decide) ?_
      refine aw_iret 59 dX11_as_59 rfl (Nat.zero_le _) (Nat.zero_le _) ?_
      exact ⟨by first | rfl | decide, hR, α, hC⟩
  · exact absurd hw h23

set_option maxHeartbeats 4000000 in
set_option maxRecDepth 100000 in
theorem c1_X11_as {M0 : Mem} {τ : TT} {α : AT} {p : Nat} {w : Int32} (hC : CW τ α M0) (hp : p < nP τ) (hw : irg w 0 2) (hno : ¬ τ 16 p < 0) (hk : M0.2.1 (α 3 p) = (0, 5)) : CK mX11_as rmX11_as [.int (nI p), .int w] M0 (.int (if (1 : Int32) < w then -12 else 1)) (if (1 : Int32) < w then tu τ 0 0 2 else tu τ 0 0 0) := by
  refine am_of rfl rfl (ls := [some (.ref 2), some (.int (nI p)), some (.int w), none]) rfl ?_
  suffices HH : ∀ M, (CW τ α M) → (Kr M0 M) → (M.2.1 (α 3 p) = (0, 5)) → AW mX11_as rmX11_as (fun r' M' => r' = (some (.int (if (1 : Int32) < w then -12 else 1))) ∧ (fun M2 => Kr M0 M2 ∧ ∃ α2, CW (if (1 : Int32) < w then tu τ 0 0 2 else tu τ 0 0 0) α2 M2) M') 0 [some (.ref 2), some (.int (nI p)), some (.int w), none] [] M 0 0 from HH M0 hC (Kr.rf _) hk
  intro M hC hR hk
  refine aw_aload0 0 dX11_as_0 ?_
  refine aw_ic0 1 dX11_as_1 ?_
  refine fp_put 2 dX11_as_2 ckF_RX11_64_11 ckP11_12 hC.xo.1 rfl rfl (fun M hd => ?_)
  replace hR := hR.trans (hd.toWd.kp.kr hC.m1 (fun b q => by omega))
  replace hC := hC.flt hd
  replace hk := (congrFun hd.2.1 _).trans hk
  clear hd
  refine aw_aload0 5 dX11_as_5 ?_
  refine aw_iload1 6 dX11_as_6 ?_
  refine cr_v1 7 dX11_as_7 (c_X11_pictureAt hC hp) ckV_RX11_106 cd_X11_pictureAt hC.xo.1 vc11 rfl rfl (Nat.le_of_ble_eq_true rfl) ⟨⟨by decide, by decide⟩, by decide, by decide⟩ rfl ?_
  refine aw_astore3 10 dX11_as_10 rfl ?_
  refine aw_aload3 11 dX11_as_11 ?_
  refine aw_ifnonnull 12 17 dX11_as_12 (by decide) ?_
  refine aw_iload2 17 dX11_as_17 ?_
  refine aw_ic0 18 dX11_as_18 ?_
  refine aw_ic2 19 dX11_as_19 ?_
  refine cr_s1 20 dX11_as_20 (cr_sd (c_isInZ (0) (2) (by decide) (by decide))) ckS_RX11_72 cd_X11_isIn rfl (Nat.le_of_ble_eq_true rfl) ⟨⟨by decide, by decide⟩, by decide, by decide⟩ rfl ?_
  refine aw_ifne_b 23 29 dX11_as_23 (by decide) (fun h23 => ?_) (fun h23 => ?_)
  · refine aw_aload3 29 dX11_as_29 ?_
    refine aw_get 30 dX11_as_30 ckF_RX11_147_3 (hC.pc p hp).2.2.2.1 ((hC.pc p hp).2.2.2.2.2.2.2.2.1.trans (if_neg hno)) ?_
    refine aw_ifnonnull 33 39 dX11_as_33 (by decide) ?_
    refine aw_aload3 39 dX11_as_39 ?_
    refine aw_get 40 dX11_as_40 ckF_RX11_147_3 (hC.pc p hp).2.2.2.1 ((hC.pc p hp).2.2.2.2.2.2.2.2.1.trans (if_neg hno)) ?_
    refine cr_u1 (rr := (RX0, TX0, 5)) (owner := RX7) (y := ⟨RX7, "kind", "()I"⟩) 43 dX11_as_43 c_X0_kind ckU_RX11_199_0 cd_X0_kind cd_X7_kind hk vc0 rfl (Nat.le_of_ble_eq_true rfl) ⟨⟨by decide, by decide⟩, by decide, by decide⟩ rfl ?_
    refine aw_iload2 46 dX11_as_46 ?_
    refine aw_icmp_ge 47 58 dX11_as_47 (by decide) (fun h47 => ?_) (fun h47 => ?_)
    · rw [if_neg (Int32.not_lt.mpr h47), if_neg (Int32.not_lt.mpr h47)]
      refine aw_ic1 58 dX11_as_58 ?_
      refine aw_iret 59 dX11_as_59 rfl (Nat.zero_le _) (Nat.zero_le _) ?_
      exact ⟨by first | rfl | decide, hR, α, hC⟩
    · rw [if_pos (Int32.not_le.mp h47), if_pos (Int32.not_le.mp h47)]
      refine aw_aload0 50 dX11_as_50 ?_
      refine aw_ic2 51 dX11_as_51 ?_
      refine ap_v1 52 dX11_as_52 (c_X11_failed hC) ckV_RX11_84 cd_X11_failed hC.xo.1 vc11 rfl rfl (Nat.le_of_ble_eq_true rfl) ⟨⟨by decide, by decide⟩, by decide, by decide⟩ rfl (fun M hd => ?_)
      replace hR := hR.trans (hd.toWd.kp.kr hC.m1 (fun b q => by omega))
      replace hC := hC.flt hd
      rw [tu_ch] at hC
      refine aw_goto 55 59 dX11_as_55 (by decide) ?_
      refine aw_iret 59 dX11_as_59 rfl (Nat.zero_le _) (Nat.zero_le _) ?_
      exact ⟨by first | rfl | decide, hR, α, hC⟩
  · exact absurd hw h23

set_option maxHeartbeats 4000000 in
set_option maxRecDepth 100000 in
theorem c2_X11_as {M0 : Mem} {τ : TT} {α : AT} {p : Nat} {w : Int32} (hC : CW τ α M0) (hp : p < nP τ) (hw : irg w 0 2) (hno : ¬ τ 16 p < 0) (hk : M0.2.1 (α 3 p) = (6, 5)) : CK mX11_as rmX11_as [.int (nI p), .int w] M0 (.int (if (2 : Int32) < w then -12 else 1)) (if (2 : Int32) < w then tu τ 0 0 2 else tu τ 0 0 0) := by
  refine am_of rfl rfl (ls := [some (.ref 2), some (.int (nI p)), some (.int w), none]) rfl ?_
  suffices HH : ∀ M, (CW τ α M) → (Kr M0 M) → (M.2.1 (α 3 p) = (6, 5)) → AW mX11_as rmX11_as (fun r' M' => r' = (some (.int (if (2 : Int32) < w then -12 else 1))) ∧ (fun M2 => Kr M0 M2 ∧ ∃ α2, CW (if (2 : Int32) < w then tu τ 0 0 2 else tu τ 0 0 0) α2 M2) M') 0 [some (.ref 2), some (.int (nI p)), some (.int w), none] [] M 0 0 from HH M0 hC (Kr.rf _) hk
  intro M hC hR hk
  refine aw_aload0 0 dX11_as_0 ?_
  refine aw_ic0 1 dX11_as_1 ?_
  refine fp_put 2 dX11_as_2 ckF_RX11_64_11 ckP11_12 hC.xo.1 rfl rfl (fun M hd => ?_)
  replace hR := hR.trans (hd.toWd.kp.kr hC.m1 (fun b q => by omega))
  replace hC := hC.flt hd
  replace hk := (congrFun hd.2.1 _).trans hk
  clear hd
  refine aw_aload0 5 dX11_as_5 ?_
  refine aw_iload1 6 dX11_as_6 ?_
  refine cr_v1 7 dX11_as_7 (c_X11_pictureAt hC hp) ckV_RX11_106 cd_X11_pictureAt hC.xo.1 vc11 rfl rfl (Nat.le_of_ble_eq_true rfl) ⟨⟨by decide, by decide⟩, by decide, by decide⟩ rfl ?_
  refine aw_astore3 10 dX11_as_10 rfl ?_
  refine aw_aload3 11 dX11_as_11 ?_
  refine aw_ifnonnull 12 17 dX11_as_12 (by decide) ?_
  refine aw_iload2 17 dX11_as_17 ?_
  refine aw_ic0 18 dX11_as_18 ?_
  refine aw_ic2 19 dX11_as_19 ?_
  refine cr_s1 20 dX11_as_20 (cr_sd (c_isInZ (0) (2) (by decide) (by decide))) ckS_RX11_72 cd_X11_isIn rfl (Nat.le_of_ble_eq_true rfl) ⟨⟨by decide, by decide⟩, by decide, by decide⟩ rfl ?_
  refine aw_ifne_b 23 29 dX11_as_23 (by decide) (fun h23 => ?_) (fun h23 => ?_)
  · refine aw_aload3 29 dX11_as_29 ?_
    refine aw_get 30 dX11_as_30 ckF_RX11_147_3 (hC.pc p hp).2.2.2.1 ((hC.pc p hp).2.2.2.2.2.2.2.2.1.trans (if_neg hno)) ?_
    refine aw_ifnonnull 33 39 dX11_as_33 (by decide) ?_
    refine aw_aload3 39 dX11_as_39 ?_
    refine aw_get 40 dX11_as_40 ckF_RX11_147_3 (hC.pc p hp).2.2.2.1 ((hC.pc p hp).2.2.2.2.2.2.2.2.1.trans (if_neg hno)) ?_
    refine cr_u1 (rr := (RX6, TX6, 5)) (owner := RX7) (y := ⟨RX7, "kind", "()I"⟩) 43 dX11_as_43 c_X6_kind ckU_RX11_199_6 cd_X6_kind cd_X7_kind hk vc6 rfl (Nat.le_of_ble_eq_true rfl) ⟨⟨by decide, by decide⟩, by decide, by decide⟩ rfl ?_
    refine aw_iload2 46 dX11_as_46 ?_
    refine aw_icmp_ge 47 58 dX11_as_47 (by decide) (fun h47 => ?_) (fun h47 => ?_)
    · rw [if_neg (Int32.not_lt.mpr h47), if_neg (Int32.not_lt.mpr h47)]
      refine aw_ic1 58 dX11_as_58 ?_
      refine aw_iret 59 dX11_as_59 rfl (Nat.zero_le _) (Nat.zero_le _) ?_
      exact ⟨by first | rfl | decide, hR, α, hC⟩
    · rw [if_pos (Int32.not_le.mp h47), if_pos (Int32.not_le.mp h47)]
      refine aw_aload0 50 dX11_as_50 ?_
      refine aw_ic2 51 dX11_as_51 ?_
      refine ap_v1 52 dX11_as_52 (c_X11_failed hC) ckV_RX11_84 cd_X11_failed hC.xo.1 vc11 rfl rfl (Nat.le_of_ble_eq_true rfl) ⟨⟨by decide, by decide⟩, by decide, by decide⟩ rfl (fun M hd => ?_)
      replace hR := hR.trans (hd.toWd.kp.kr hC.m1 (fun b q => by omega))
      replace hC := hC.flt hd
      rw [tu_ch] at hC
      refine aw_goto 55 59 dX11_as_55 (by decide) ?_
      refine aw_iret 59 dX11_as_59 rfl (Nat.zero_le _) (Nat.zero_le _) ?_
      exact ⟨by first | rfl | decide, hR, α, hC⟩
  · exact absurd hw h23

