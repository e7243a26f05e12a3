/-! the reference: more readers (rows laid by gen/ref3.py) -/
def WL (τ : TT) : Prop := nL τ ≤ 6 ∧ τ 13 0 = nI (nL τ)
def ssz (τ : TT) (k : Nat) : Nat := (τ 28 k).toNatClampNeg
def WS (τ : TT) : Prop := ∀ k, k < 4 → τ 28 k = -1 ∨ (ssz τ k ≤ 60 ∧ τ 28 k = nI (ssz τ k))
def slv (τ : TT) (p l : Nat) (h : Int32) : Int32 := TN (leaf τ p) 1 * τ 14 l + 13 * h + 5 * τ 2 p + τ 3 p - (TN (leaf τ p) 1 * τ 14 l + 13 * h + 5 * τ 2 p + τ 3 p) / 9973 * 9973

def rmX12_noLens : Room := { frames := 1, cells := 0, slots := 0, locals := 25 }
set_option maxHeartbeats 4000000 in
set_option maxRecDepth 100000 in
theorem c_X12_noLens {τ : TT} {v : Int32} (hw : WL τ) : RD mX12_noLens rmX12_noLens [.int v] τ (some (.int (bi (¬ ir v (nL τ))))) (τ) := by
  intro M0 hW0
  refine am_of rfl rfl (ls := [some (.ref 25), some (.int v)]) rfl ?_
  suffices HH : ∀ M, RO τ M0 M → AW mX12_noLens rmX12_noLens (fun r' M' => r' = (some (.int (bi (¬ ir v (nL τ))))) ∧ RO (τ) M0 M') 0 [some (.ref 25), some (.int v)] [] M 0 0 from HH M0 ⟨hW0, Off.rf M0⟩
  intro M hW
  have hn6 := hw.1
  refine aw_iload1 0 dX12_noLens_0 ?_
  refine aw_i2l 1 dX12_noLens_1 ?_
  refine aw_lc0 2 dX12_noLens_2 ?_
  refine aw_aload0 3 dX12_noLens_3 ?_
  refine rw_gi 4 13 dX12_noLens_4 ckF_RX12_211_12 (by decide) rfl hW ?_
  refine aw_topi (hw.2) ?_
  refine aw_i2l 7 dX12_noLens_7 ?_
  refine aw_lc1 8 dX12_noLens_8 ?_
  refine aw_lsub 9 dX12_noLens_9 ?_
  refine sd_call1 10 dX12_noLens_10 (c_in2 0 ((nL τ : Int) - 1) (by decide) (n12m1 _ (by omega))) ckS_RX12_99 cd_X12_in rfl (Nat.le_of_ble_eq_true rfl) ⟨⟨by decide, by decide⟩, by decide, by decide⟩ rfl ?_
  refine aw_ifne_b 13 20 dX12_noLens_13 (by decide) (fun h13 => ?_) (fun h13 => ?_)
  · refine aw_ic0 20 dX12_noLens_20 ?_
    refine aw_zret 21 dX12_noLens_21 rfl (by first | rfl | exact bi_nar | decide) (Nat.zero_le _) (Nat.zero_le _) ?_
    refine ⟨?_, hW⟩
    unfold ir
    first
      | (rw [bi_f (fun q => q ⟨h13.1, by omega⟩)]; done)
      | (rw [bi_t (show ¬ ((0 : Int) ≤ v.toInt ∧ v.toInt < (nL τ : Int)) from fun q => h13 ⟨q.1, by omega⟩)]; done)
  · refine aw_ic1 16 dX12_noLens_16 ?_
    refine aw_goto 17 21 dX12_noLens_17 (by decide) ?_
    refine aw_zret 21 dX12_noLens_21 rfl (by first | rfl | exact bi_nar | decide) (Nat.zero_le _) (Nat.zero_le _) ?_
    refine ⟨?_, hW⟩
    unfold ir
    first
      | (rw [bi_f (fun q => q ⟨h13.1, by omega⟩)]; done)
      | (rw [bi_t (show ¬ ((0 : Int) ≤ v.toInt ∧ v.toInt < (nL τ : Int)) from fun q => h13 ⟨q.1, by omega⟩)]; done)

def rmX12_noLine : Room := { frames := 0, cells := 0, slots := 0, locals := 0 }
set_option maxHeartbeats 4000000 in
set_option maxRecDepth 100000 in
theorem c_X12_noLine {τ : TT} {p : Nat} (hp : p < 12) : RD mX12_noLine rmX12_noLine [.int (nI p)] τ (some (.int (bi (τ 16 p < 0)))) (τ) := by
  intro M0 hW0
  refine am_of rfl rfl (ls := [some (.ref 25), some (.int (nI p))]) rfl ?_
  suffices HH : ∀ M, RO τ M0 M → AW mX12_noLine rmX12_noLine (fun r' M' => r' = (some (.int (bi (τ 16 p < 0)))) ∧ RO (τ) M0 M') 0 [some (.ref 25), some (.int (nI p))] [] M 0 0 from HH M0 ⟨hW0, Off.rf M0⟩
  intro M hW
  refine aw_aload0 0 dX12_noLine_0 ?_
  refine rw_ga 1 16 dX12_noLine_1 ckF_RX12_37_12 (by decide) (by decide) hW ?_
  refine aw_iload1 4 dX12_noLine_4 ?_
  refine rw_ld 5 16 (p) dX12_noLine_5 hW rfl (show p < 12 by omega) ?_
  refine aw_if_ge 6 13 dX12_noLine_6 (by decide) (fun h6 => ?_) (fun h6 => ?_)
  · refine aw_ic0 13 dX12_noLine_13 ?_
    refine aw_zret 14 dX12_noLine_14 rfl (by first | rfl | exact bi_nar | decide) (Nat.zero_le _) (Nat.zero_le _) ?_
    exact ⟨by first | rw [bi_f (Int32.not_lt.mpr h6)] | rw [bi_t (Int32.not_le.mp h6)], hW⟩
  · refine aw_ic1 9 dX12_noLine_9 ?_
    refine aw_goto 10 14 dX12_noLine_10 (by decide) ?_
    refine aw_zret 14 dX12_noLine_14 rfl (by first | rfl | exact bi_nar | decide) (Nat.zero_le _) (Nat.zero_le _) ?_
    exact ⟨by first | rw [bi_f (Int32.not_lt.mpr h6)] | rw [bi_t (Int32.not_le.mp h6)], hW⟩

def rmX12_sealOf : Room := { frames := 4, cells := 0, slots := 0, locals := 90 }
set_option maxHeartbeats 4000000 in
set_option maxRecDepth 100000 in
theorem c_X12_sealOf {τ : TT} {p l : Nat} {h : Int32} (hw : WP τ) (hp : p < nP τ) (hl : l < 6) : RD mX12_sealOf rmX12_sealOf [.int (nI p), .int (nI l), .int h] τ (some (.int (slv τ p l h))) (lay τ p) := by
  intro M0 hW0
  refine am_of rfl rfl (ls := [some (.ref 25), some (.int (nI p)), some (.int (nI l)), some (.int h)]) rfl ?_
  suffices HH : ∀ M, RO τ M0 M → AW mX12_sealOf rmX12_sealOf (fun r' M' => r' = (some (.int (slv τ p l h))) ∧ RO (lay τ p) M0 M') 0 [some (.ref 25), some (.int (nI p)), some (.int (nI l)), some (.int h)] [] M 0 0 from HH M0 ⟨hW0, Off.rf M0⟩
  intro M hW
  have hn12 := hw.1.1
  have hwd := (hw.2 p hp).1
  have hhg := (hw.2 p hp).2
  refine aw_aload0 0 dX12_sealOf_0 ?_
  refine aw_iload1 1 dX12_sealOf_1 ?_
  refine rw_call1 2 dX12_sealOf_2 (c_X12_rootOf hw hp) ckV_RX12_152 cd_X12_rootOf rfl hW rfl (Nat.le_of_ble_eq_true rfl) ⟨⟨by decide, by decide⟩, by decide, by decide⟩ rfl (fun M hW => ?_)
  refine aw_aload0 5 dX12_sealOf_5 ?_
  refine rw_ga 6 14 dX12_sealOf_6 ckF_RX12_31_12 (by decide) (by decide) hW ?_
  refine aw_iload2 9 dX12_sealOf_9 ?_
  refine rw_ld 10 14 (l) dX12_sealOf_10 hW rfl (show l < 6 by omega) ?_
  rw [show lay τ p 14 = τ 14 from ov_ne (by decide)]
  refine aw_imul 11 dX12_sealOf_11 ?_
  refine aw_bipush 12 13 dX12_sealOf_12 (by decide) ?_
  refine aw_iload3 14 dX12_sealOf_14 ?_
  refine aw_imul 15 dX12_sealOf_15 ?_
  refine aw_iadd 16 dX12_sealOf_16 ?_
  refine aw_ic5 17 dX12_sealOf_17 ?_
  refine aw_aload0 18 dX12_sealOf_18 ?_
  refine rw_ga 19 2 dX12_sealOf_19 ckF_RX12_7_12 (by decide) (by decide) hW ?_
  refine aw_iload1 22 dX12_sealOf_22 ?_
  refine rw_ld 23 2 (p) dX12_sealOf_23 hW rfl (show p < 12 by omega) ?_
  rw [show lay τ p 2 = τ 2 from ov_ne (by decide)]
  refine aw_imul 24 dX12_sealOf_24 ?_
  refine aw_iadd 25 dX12_sealOf_25 ?_
  refine aw_aload0 26 dX12_sealOf_26 ?_
  refine rw_ga 27 3 dX12_sealOf_27 ckF_RX12_13_12 (by decide) (by decide) hW ?_
  refine aw_iload1 30 dX12_sealOf_30 ?_
  refine rw_ld 31 3 (p) dX12_sealOf_31 hW rfl (show p < 12 by omega) ?_
  rw [show lay τ p 3 = τ 3 from ov_ne (by decide)]
  refine aw_iadd 32 dX12_sealOf_32 ?_
  refine aw_sipush 33 9973 dX12_sealOf_33 (by decide) ?_
  refine aw_irem 36 dX12_sealOf_36 (by decide) ?_
  refine aw_iret 37 dX12_sealOf_37 rfl (Nat.zero_le _) (Nat.zero_le _) ?_
  exact ⟨rfl, hW⟩

def wrt (τ : TT) (p l : Nat) (k f h : Int32) : TT := tu (tu (lay (tu (tu (tu (tu τ 16 p k) 17 p (nI l)) 18 p h) 20 p f) p) 19 p (slv τ p l h)) 21 p 0

def rmX12_write : Room := { frames := 5, cells := 0, slots := 0, locals := 113 }
set_option maxHeartbeats 4000000 in
set_option maxRecDepth 100000 in
theorem c_X12_write {τ : TT} {p l : Nat} {k f h : Int32} (hw : WP τ) (hp : p < nP τ) (hl : l < 6) : RD mX12_write rmX12_write [.int (nI p), .int k, .int f, .int (nI l), .int h] τ (some (.int (slv τ p l h))) (wrt τ p l k f h) := by
  intro M0 hW0
  refine am_of rfl rfl (ls := [some (.ref 25), some (.int (nI p)), some (.int k), some (.int f), some (.int (nI l)), some (.int h)]) rfl ?_
  suffices HH : ∀ M, RO τ M0 M → AW mX12_write rmX12_write (fun r' M' => r' = (some (.int (slv τ p l h))) ∧ RO (wrt τ p l k f h) M0 M') 0 [some (.ref 25), some (.int (nI p)), some (.int k), some (.int f), some (.int (nI l)), some (.int h)] [] M 0 0 from HH M0 ⟨hW0, Off.rf M0⟩
  intro M hW
  have hn12 := hw.1.1
  have hwd := (hw.2 p hp).1
  have hhg := (hw.2 p hp).2
  refine aw_aload0 0 dX12_write_0 ?_
  refine rw_ga 1 16 dX12_write_1 ckF_RX12_37_12 (by decide) (by decide) hW ?_
  refine aw_iload1 4 dX12_write_4 ?_
  refine aw_iload2 5 dX12_write_5 ?_
  refine rw_st 6 16 (p) dX12_write_6 hW rfl (show p < 12 by omega) (fun M hW => ?_)
  refine aw_aload0 7 dX12_write_7 ?_
  refine rw_ga 8 17 dX12_write_8 ckF_RX12_40_12 (by decide) (by decide) hW ?_
  refine aw_iload1 11 dX12_write_11 ?_
  refine aw_iload4 12 dX12_write_12 ?_
  refine rw_st 14 17 (p) dX12_write_14 hW rfl (show p < 12 by omega) (fun M hW => ?_)
  refine aw_aload0 15 dX12_write_15 ?_
  refine rw_ga 16 18 dX12_write_16 ckF_RX12_43_12 (by decide) (by decide) hW ?_
  refine aw_iload1 19 dX12_write_19 ?_
  refine aw_iload5 20 dX12_write_20 ?_
  refine rw_st 22 18 (p) dX12_write_22 hW rfl (show p < 12 by omega) (fun M hW => ?_)
  refine aw_aload0 23 dX12_write_23 ?_
  refine rw_ga 24 20 dX12_write_24 ckF_RX12_49_12 (by decide) (by decide) hW ?_
  refine aw_iload1 27 dX12_write_27 ?_
  refine aw_iload3 28 dX12_write_28 ?_
  refine rw_st 29 20 (p) dX12_write_29 hW rfl (show p < 12 by omega) (fun M hW => ?_)
  refine aw_aload0 30 dX12_write_30 ?_
  refine rw_ga 31 19 dX12_write_31 ckF_RX12_46_12 (by decide) (by decide) hW ?_
  refine aw_iload1 34 dX12_write_34 ?_
  refine aw_aload0 35 dX12_write_35 ?_
  refine aw_iload1 36 dX12_write_36 ?_
  refine aw_iload4 37 dX12_write_37 ?_
  refine aw_iload5 39 dX12_write_39 ?_
  refine rw_call1 41 dX12_write_41 (show RD mX12_sealOf rmX12_sealOf [.int (nI p), .int (nI l), .int h] (tu (tu (tu (tu τ 16 p k) 17 p (nI l)) 18 p h) 20 p f) (some (.int (slv τ p l h))) (lay (tu (tu (tu (tu τ 16 p k) 17 p (nI l)) 18 p h) 20 p f) p) from c_X12_sealOf (τ := tu (tu (tu (tu τ 16 p k) 17 p (nI l)) 18 p h) 20 p f) hw hp hl) ckV_RX12_221 cd_X12_sealOf rfl hW rfl (Nat.le_of_ble_eq_true rfl) ⟨⟨by decide, by decide⟩, by decide, by decide⟩ rfl (fun M hW => ?_)
  refine rw_st 44 19 (p) dX12_write_44 hW rfl (show p < 12 by omega) (fun M hW => ?_)
  refine aw_aload0 45 dX12_write_45 ?_
  refine rw_ga 46 21 dX12_write_46 ckF_RX12_52_12 (by decide) (by decide) hW ?_
  refine aw_iload1 49 dX12_write_49 ?_
  refine aw_ic0 50 dX12_write_50 ?_
  refine rw_st 51 21 (p) dX12_write_51 hW rfl (show p < 12 by omega) (fun M hW => ?_)
  refine aw_aload0 52 dX12_write_52 ?_
  refine rw_ga 53 19 dX12_write_53 ckF_RX12_46_12 (by decide) (by decide) hW ?_
  refine aw_iload1 56 dX12_write_56 ?_
  refine rw_ld 57 19 (p) dX12_write_57 hW rfl (show p < 12 by omega) ?_
  rw [tu_ne (by decide), tu_at]
  refine aw_iret 58 dX12_write_58 rfl (Nat.zero_le _) (Nat.zero_le _) ?_
  exact ⟨rfl, hW⟩

theorem lsr8 {n : Nat} (h : n ≤ 16) : lsr 8 (nI n) = nI (min 8 n) := by
  unfold lsr
  by_cases h8 : 8 < n
  · rw [if_pos (show (8 : Int32) < nI n from nI_lt h8 (by omega)), Nat.min_eq_left (by omega)]
    rfl
  · rw [if_neg (show ¬ (8 : Int32) < nI n from nI_nlt (a := 8) (by omega) (by omega)), Nat.min_eq_right (by omega)]

def rmX12_looked : Room := { frames := 1, cells := 0, slots := 0, locals := 21 }
set_option maxHeartbeats 4000000 in
set_option maxRecDepth 100000 in
theorem c_X12_looked {τ : TT} {p : Nat} (hw : WP τ) (hp : p < nP τ) : RD mX12_looked rmX12_looked [.int (nI p)] τ (some (.int (nI (min 8 (wd τ p * hg τ p))))) (τ) := by
  intro M0 hW0
  refine am_of rfl rfl (ls := [some (.ref 25), some (.int (nI p))]) rfl ?_
  suffices HH : ∀ M, RO τ M0 M → AW mX12_looked rmX12_looked (fun r' M' => r' = (some (.int (nI (min 8 (wd τ p * hg τ p))))) ∧ RO (τ) M0 M') 0 [some (.ref 25), some (.int (nI p))] [] M 0 0 from HH M0 ⟨hW0, Off.rf M0⟩
  intro M hW
  have hn12 := hw.1.1
  have hwd := (hw.2 p hp).1
  have hhg := (hw.2 p hp).2
  have hm16 := wmul hwd.2.1 hhg.2.1
  refine aw_bipush 0 8 dX12_looked_0 (by decide) ?_
  refine aw_aload0 2 dX12_looked_2 ?_
  refine aw_iload1 3 dX12_looked_3 ?_
  refine rw_call1 4 dX12_looked_4 (c_X12_manySquares hw hp) ckV_RX12_128 cd_X12_manySquares rfl hW rfl (Nat.le_of_ble_eq_true rfl) ⟨⟨by decide, by decide⟩, by decide, by decide⟩ rfl (fun M hW => ?_)
  refine sd_call1 7 dX12_looked_7 c_X12_lesser ckS_RX12_184 cd_X12_lesser rfl (Nat.le_of_ble_eq_true rfl) ⟨⟨by decide, by decide⟩, by decide, by decide⟩ rfl ?_
  refine aw_iret 10 dX12_looked_10 rfl (Nat.zero_le _) (Nat.zero_le _) ?_
  exact ⟨by rw [lsr8 hm16], hW⟩

abbrev soI (τ : TT) (p k : Nat) (mark : Int32) : Prop := τ 4 (16 * p + plc τ p k) - τ 4 (16 * p + plc τ p k) / 2 * 2 = (mark >>> (nI k &&& 31)) &&& 1
def fnd (τ : TT) (p : Nat) (mark : Int32) : Nat → Int32
  | 0 => 0
  | k + 1 => fnd τ p mark k + bi (soI τ p k mark)

def rmX12_isSo : Room := { frames := 1, cells := 0, slots := 0, locals := 22 }
set_option maxHeartbeats 4000000 in
set_option maxRecDepth 100000 in
theorem c_X12_isSo {τ : TT} {p k : Nat} {mark : Int32} (hw : WP τ) (hp : p < nP τ) (hk : k < wd τ p * hg τ p) : RD mX12_isSo rmX12_isSo [.int (nI p), .int (nI k), .int mark] τ (some (.int (bi (soI τ p k mark)))) (τ) := by
  intro M0 hW0
  refine am_of rfl rfl (ls := [some (.ref 25), some (.int (nI p)), some (.int (nI k)), some (.int mark)]) rfl ?_
  suffices HH : ∀ M, RO τ M0 M → AW mX12_isSo rmX12_isSo (fun r' M' => r' = (some (.int (bi (soI τ p k mark)))) ∧ RO (τ) M0 M') 0 [some (.ref 25), some (.int (nI p)), some (.int (nI k)), some (.int mark)] [] M 0 0 from HH M0 ⟨hW0, Off.rf M0⟩
  intro M hW
  have hn12 := hw.1.1
  have hwd := (hw.2 p hp).1
  have hhg := (hw.2 p hp).2
  have hm16 := wmul hwd.2.1 hhg.2.1
  have hpl := plc_lt ⟨hwd.1, hwd.2.1⟩ hhg.2.1 (show k < wd τ p * hg τ p by omega)
  refine aw_aload0 0 dX12_isSo_0 ?_
  refine rw_ga 1 4 dX12_isSo_1 ckF_RX12_16_12 (by decide) (by decide) hW ?_
  refine aw_bipush 4 16 dX12_isSo_4 (by decide) ?_
  refine aw_iload1 6 dX12_isSo_6 ?_
  refine aw_imulN 7 (16) (p) dX12_isSo_7 rfl rfl ?_
  refine aw_aload0 8 dX12_isSo_8 ?_
  refine aw_iload1 9 dX12_isSo_9 ?_
  refine aw_iload2 10 dX12_isSo_10 ?_
  refine rw_call1 11 dX12_isSo_11 (c_X12_placeOf hw hp (k := k) (by omega)) ckV_RX12_131 cd_X12_placeOf rfl hW rfl (Nat.le_of_ble_eq_true rfl) ⟨⟨by decide, by decide⟩, by decide, by decide⟩ rfl (fun M hW => ?_)
  refine aw_iaddN 14 (16 * p) (plc τ p k) dX12_isSo_14 rfl rfl ?_
  refine rw_ld 15 4 ((16 * p) + (plc τ p k)) dX12_isSo_15 hW rfl (show (16 * p) + (plc τ p k) < 192 by omega) ?_
  refine aw_ic2 16 dX12_isSo_16 ?_
  refine aw_irem 17 dX12_isSo_17 (by decide) ?_
  refine aw_iload3 18 dX12_isSo_18 ?_
  refine aw_iload2 19 dX12_isSo_19 ?_
  refine aw_ishr 20 dX12_isSo_20 ?_
  refine aw_ic1 21 dX12_isSo_21 ?_
  refine aw_iand 22 dX12_isSo_22 ?_
  refine aw_icmp_ne 23 30 dX12_isSo_23 (by decide) (fun h23 => ?_) (fun h23 => ?_)
  · refine aw_ic0 30 dX12_isSo_30 ?_
    refine aw_zret 31 dX12_isSo_31 rfl (by first | rfl | exact bi_nar | decide) (Nat.zero_le _) (Nat.zero_le _) ?_
    exact ⟨by first | rw [bi_t h23] | rw [bi_f h23], hW⟩
  · refine aw_ic1 26 dX12_isSo_26 ?_
    refine aw_goto 27 31 dX12_isSo_27 (by decide) ?_
    refine aw_zret 31 dX12_isSo_31 rfl (by first | rfl | exact bi_nar | decide) (Nat.zero_le _) (Nat.zero_le _) ?_
    exact ⟨by first | rw [bi_t h23] | rw [bi_f h23], hW⟩

def rmX12_foundIn : Room := { frames := 2, cells := 0, slots := 0, locals := 45 }
set_option maxHeartbeats 4000000 in
set_option maxRecDepth 100000 in
theorem c_X12_foundIn {τ : TT} {p : Nat} {mark : Int32} (hw : WP τ) (hp : p < nP τ) : RD mX12_foundIn rmX12_foundIn [.int (nI p), .int mark] τ (some (.int (fnd τ p mark (min 8 (wd τ p * hg τ p))))) (τ) := by
  intro M0 hW0
  refine am_of rfl rfl (ls := [some (.ref 25), some (.int (nI p)), some (.int mark), none, none]) rfl ?_
  suffices HH : ∀ M, RO τ M0 M → AW mX12_foundIn rmX12_foundIn (fun r' M' => r' = (some (.int (fnd τ p mark (min 8 (wd τ p * hg τ p))))) ∧ RO (τ) M0 M') 0 [some (.ref 25), some (.int (nI p)), some (.int mark), none, none] [] M 0 0 from HH M0 ⟨hW0, Off.rf M0⟩
  intro M hW
  have hn12 := hw.1.1
  have hwd := (hw.2 p hp).1
  have hhg := (hw.2 p hp).2
  have hm16 := wmul hwd.2.1 hhg.2.1
  refine aw_ic0 0 dX12_foundIn_0 ?_
  refine aw_istore3 1 dX12_foundIn_1 rfl ?_
  refine aw_ic0 2 dX12_foundIn_2 ?_
  refine aw_istore4 3 dX12_foundIn_3 rfl ?_
  have LP5 : ∀ (dd : Nat) (k : Nat) (M : Mem), min 8 (wd τ p * hg τ p) - k = dd → k ≤ min 8 (wd τ p * hg τ p) → RO τ M0 M → AW mX12_foundIn rmX12_foundIn (fun r' M' => r' = (some (.int (fnd τ p mark (min 8 (wd τ p * hg τ p))))) ∧ RO (τ) M0 M') 5 [some (.ref 25), some (.int (nI p)), some (.int mark), some (.int (fnd τ p mark k)), some (.int (nI k))] [] M 0 0 := by
    intro dd
    induction dd using Nat.strongRecOn with
    | _ dd ih5 =>
      intro k M hdd hk hW
      refine aw_iload4 5 dX12_foundIn_5 ?_
      refine aw_aload0 7 dX12_foundIn_7 ?_
      refine aw_iload1 8 dX12_foundIn_8 ?_
      refine rw_call1 9 dX12_foundIn_9 (c_X12_looked hw hp) ckV_RX12_270 cd_X12_looked rfl hW rfl (Nat.le_of_ble_eq_true rfl) ⟨⟨by decide, by decide⟩, by decide, by decide⟩ rfl (fun M hW => ?_)
      refine aw_icmp_geN 12 40 (k) (min 8 (wd τ p * hg τ p)) dX12_foundIn_12 (by decide) rfl rfl (by omega) (by omega) (fun h12 => ?_) (fun h12 => ?_)
      · refine aw_iload3 40 dX12_foundIn_40 ?_
        refine aw_iret 41 dX12_foundIn_41 rfl (Nat.zero_le _) (Nat.zero_le _) ?_
        have he : k = min 8 (wd τ p * hg τ p) := by omega
        subst he
        exact ⟨rfl, hW⟩
      · refine aw_iload3 15 dX12_foundIn_15 ?_
        refine aw_aload0 16 dX12_foundIn_16 ?_
        refine aw_iload1 17 dX12_foundIn_17 ?_
        refine aw_iload4 18 dX12_foundIn_18 ?_
        refine aw_iload2 20 dX12_foundIn_20 ?_
        refine rw_call1 21 dX12_foundIn_21 (c_X12_isSo hw hp (k := k) (by omega)) ckV_RX12_273 cd_X12_isSo rfl hW rfl (Nat.le_of_ble_eq_true rfl) ⟨⟨by decide, by decide⟩, by decide, by decide⟩ rfl (fun M hW => ?_)
        refine aw_ifeq_b 24 31 dX12_foundIn_24 (by decide) (fun h24 => ?_) (fun h24 => ?_)
        · refine aw_ic0 31 dX12_foundIn_31 ?_
          refine aw_iadd 32 dX12_foundIn_32 ?_
          first
            | rw [show fnd τ p mark k + 1 = fnd τ p mark (k + 1) by show _ = fnd τ p mark k + bi _; rw [bi_t h24]]
            | rw [show fnd τ p mark k + 0 = fnd τ p mark (k + 1) by show _ = fnd τ p mark k + bi _; rw [bi_f h24]]
          refine aw_istore3 33 dX12_foundIn_33 rfl ?_
          refine aw_iinc4 34 (nI (k + 1)) dX12_foundIn_34 (nI_1 _) rfl ?_
          refine aw_goto 37 5 dX12_foundIn_37 (by decide) ?_
          exact ih5 _ (by omega) (k + 1) M rfl (by omega) hW
        · refine aw_ic1 27 dX12_foundIn_27 ?_
          refine aw_goto 28 32 dX12_foundIn_28 (by decide) ?_
          refine aw_iadd 32 dX12_foundIn_32 ?_
          first
            | rw [show fnd τ p mark k + 1 = fnd τ p mark (k + 1) by show _ = fnd τ p mark k + bi _; rw [bi_t h24]]
            | rw [show fnd τ p mark k + 0 = fnd τ p mark (k + 1) by show _ = fnd τ p mark k + bi _; rw [bi_f h24]]
          refine aw_istore3 33 dX12_foundIn_33 rfl ?_
          refine aw_iinc4 34 (nI (k + 1)) dX12_foundIn_34 (nI_1 _) rfl ?_
          refine aw_goto 37 5 dX12_foundIn_37 (by decide) ?_
          exact ih5 _ (by omega) (k + 1) M rfl (by omega) hW
  exact LP5 _ 0 M rfl (Nat.zero_le _) hW

def ext (τ : TT) (p : Nat) (what : Int32) : Nat → Int32
  | 0 => τ 4 (16 * p)
  | k + 1 => if what = 0 then lsr (ext τ p what k) (τ 4 (16 * p + plc τ p k)) else gtr (ext τ p what k) (τ 4 (16 * p + plc τ p k))

def rmX12_extreme : Room := { frames := 1, cells := 0, slots := 0, locals := 22 }
set_option maxHeartbeats 4000000 in
set_option maxRecDepth 100000 in
theorem c_X12_extreme {τ : TT} {p : Nat} {what : Int32} (hw : WP τ) (hp : p < nP τ) : RD mX12_extreme rmX12_extreme [.int (nI p), .int what] τ (some (.int (ext τ p what (wd τ p * hg τ p)))) (τ) := by
  intro M0 hW0
  refine am_of rfl rfl (ls := [some (.ref 25), some (.int (nI p)), some (.int what), none, none, none]) rfl ?_
  suffices HH : ∀ M, RO τ M0 M → AW mX12_extreme rmX12_extreme (fun r' M' => r' = (some (.int (ext τ p what (wd τ p * hg τ p)))) ∧ RO (τ) M0 M') 0 [some (.ref 25), some (.int (nI p)), some (.int what), none, none, none] [] M 0 0 from HH M0 ⟨hW0, Off.rf M0⟩
  intro M hW
  have hn12 := hw.1.1
  have hwd := (hw.2 p hp).1
  have hhg := (hw.2 p hp).2
  have hm16 := wmul hwd.2.1 hhg.2.1
  refine aw_aload0 0 dX12_extreme_0 ?_
  refine rw_ga 1 4 dX12_extreme_1 ckF_RX12_16_12 (by decide) (by decide) hW ?_
  refine aw_bipush 4 16 dX12_extreme_4 (by decide) ?_
  refine aw_iload1 6 dX12_extreme_6 ?_
  refine aw_imulN 7 (16) (p) dX12_extreme_7 rfl rfl ?_
  refine rw_ld 8 4 (16 * p) dX12_extreme_8 hW rfl (show 16 * p < 192 by omega) ?_
  refine aw_istore3 9 dX12_extreme_9 rfl ?_
  refine aw_ic0 10 dX12_extreme_10 ?_
  refine aw_istore4 11 dX12_extreme_11 rfl ?_
  have LP13 : ∀ (dd : Nat) (k : Nat) (M : Mem) (z : Option Value), wd τ p * hg τ p - k = dd → k ≤ wd τ p * hg τ p → RO τ M0 M → AW mX12_extreme rmX12_extreme (fun r' M' => r' = (some (.int (ext τ p what (wd τ p * hg τ p)))) ∧ RO (τ) M0 M') 13 [some (.ref 25), some (.int (nI p)), some (.int what), some (.int (ext τ p what k)), some (.int (nI k)), z] [] M 0 0 := by
    intro dd
    induction dd using Nat.strongRecOn with
    | _ dd ih13 =>
      intro k M z hdd hk hW
      refine aw_iload4 13 dX12_extreme_13 ?_
      refine aw_aload0 15 dX12_extreme_15 ?_
      refine aw_iload1 16 dX12_extreme_16 ?_
      refine rw_call1 17 dX12_extreme_17 (c_X12_manySquares hw hp) ckV_RX12_128 cd_X12_manySquares rfl hW rfl (Nat.le_of_ble_eq_true rfl) ⟨⟨by decide, by decide⟩, by decide, by decide⟩ rfl (fun M hW => ?_)
      refine aw_icmp_geN 20 68 (k) (wd τ p * hg τ p) dX12_extreme_20 (by decide) rfl rfl (by omega) (by omega) (fun h20 => ?_) (fun h20 => ?_)
      · refine aw_iload3 68 dX12_extreme_68 ?_
        refine aw_iret 69 dX12_extreme_69 rfl (Nat.zero_le _) (Nat.zero_le _) ?_
        have he : k = wd τ p * hg τ p := by omega
        subst he
        exact ⟨rfl, hW⟩
      · refine aw_aload0 23 dX12_extreme_23 ?_
        refine rw_ga 24 4 dX12_extreme_24 ckF_RX12_16_12 (by decide) (by decide) hW ?_
        refine aw_bipush 27 16 dX12_extreme_27 (by decide) ?_
        refine aw_iload1 29 dX12_extreme_29 ?_
        refine aw_imulN 30 (16) (p) dX12_extreme_30 rfl rfl ?_
        refine aw_aload0 31 dX12_extreme_31 ?_
        refine aw_iload1 32 dX12_extreme_32 ?_
        refine aw_iload4 33 dX12_extreme_33 ?_
        refine rw_call1 35 dX12_extreme_35 (c_X12_placeOf hw hp (k := k) (by omega)) ckV_RX12_131 cd_X12_placeOf rfl hW rfl (Nat.le_of_ble_eq_true rfl) ⟨⟨by decide, by decide⟩, by decide, by decide⟩ rfl (fun M hW => ?_)
        have hpl := plc_lt ⟨hwd.1, hwd.2.1⟩ hhg.2.1 (show k < wd τ p * hg τ p by omega)
        refine aw_iaddN 38 (16 * p) (plc τ p k) dX12_extreme_38 rfl rfl ?_
        refine rw_ld 39 4 ((16 * p) + (plc τ p k)) dX12_extreme_39 hW rfl (show (16 * p) + (plc τ p k) < 192 by omega) ?_
        refine aw_istore5 40 dX12_extreme_40 rfl ?_
        refine aw_iload2 42 dX12_extreme_42 ?_
        refine aw_if_ne 43 55 dX12_extreme_43 (by decide) (fun h43 => ?_) (fun h43 => ?_)
        · refine aw_iload3 55 dX12_extreme_55 ?_
          refine aw_iload5 56 dX12_extreme_56 ?_
          refine sd_call1 58 dX12_extreme_58 c_X12_greater ckS_RX12_187 cd_X12_greater rfl (Nat.le_of_ble_eq_true rfl) ⟨⟨by decide, by decide⟩, by decide, by decide⟩ rfl ?_
          first
            | rw [show lsr (ext τ p what k) (τ 4 (16 * p + plc τ p k)) = ext τ p what (k + 1) by show _ = ite _ _ _; rw [if_pos h43]]
            | rw [show gtr (ext τ p what k) (τ 4 (16 * p + plc τ p k)) = ext τ p what (k + 1) by show _ = ite _ _ _; rw [if_neg h43]]
          refine aw_istore3 61 dX12_extreme_61 rfl ?_
          refine aw_iinc4 62 (nI (k + 1)) dX12_extreme_62 (nI_1 _) rfl ?_
          refine aw_goto 65 13 dX12_extreme_65 (by decide) ?_
          exact ih13 _ (by omega) (k + 1) M _ rfl (by omega) hW
        · refine aw_iload3 46 dX12_extreme_46 ?_
          refine aw_iload5 47 dX12_extreme_47 ?_
          refine sd_call1 49 dX12_extreme_49 c_X12_lesser ckS_RX12_184 cd_X12_lesser rfl (Nat.le_of_ble_eq_true rfl) ⟨⟨by decide, by decide⟩, by decide, by decide⟩ rfl ?_
          refine aw_goto 52 61 dX12_extreme_52 (by decide) ?_
          first
            | rw [show lsr (ext τ p what k) (τ 4 (16 * p + plc τ p k)) = ext τ p what (k + 1) by show _ = ite _ _ _; rw [if_pos h43]]
            | rw [show gtr (ext τ p what k) (τ 4 (16 * p + plc τ p k)) = ext τ p what (k + 1) by show _ = ite _ _ _; rw [if_neg h43]]
          refine aw_istore3 61 dX12_extreme_61 rfl ?_
          refine aw_iinc4 62 (nI (k + 1)) dX12_extreme_62 (nI_1 _) rfl ?_
          refine aw_goto 65 13 dX12_extreme_65 (by decide) ?_
          exact ih13 _ (by omega) (k + 1) M _ rfl (by omega) hW
  exact LP13 _ 0 M _ rfl (Nat.zero_le _) hW

def mny (τ : TT) (p : Nat) : Nat := wd τ p * hg τ p
def lkn (τ : TT) (p q : Nat) : Int32 := szO (rsum τ p (mny τ p) / nI (mny τ p) - rsum τ q (mny τ q) / nI (mny τ q)) + szO (ext τ p 0 (mny τ p) - ext τ q 0 (mny τ q)) + szO (ext τ p 1 (mny τ p) - ext τ q 1 (mny τ q))
theorem mny_ne {τ : TT} {p : Nat} (hw : WP τ) (hp : p < nP τ) : ¬ nI (wd τ p * hg τ p) = 0 := by
  have hwd := (hw.2 p hp).1
  have hhg := (hw.2 p hp).2
  have h16 := wmul hwd.2.1 hhg.2.1
  exact nI_ne0 (Nat.mul_pos hwd.1 hhg.1) (by omega)

def rmX12_likeness : Room := { frames := 2, cells := 0, slots := 0, locals := 47 }
set_option maxHeartbeats 4000000 in
set_option maxRecDepth 100000 in
theorem c_X12_likeness {τ : TT} {p q : Nat} (hw : WP τ) (hp : p < nP τ) (hq : q < nP τ) : RD mX12_likeness rmX12_likeness [.int (nI p), .int (nI q)] τ (some (.int (lkn τ p q))) (τ) := by
  intro M0 hW0
  refine am_of rfl rfl (ls := [some (.ref 25), some (.int (nI p)), some (.int (nI q)), none]) rfl ?_
  suffices HH : ∀ M, RO τ M0 M → AW mX12_likeness rmX12_likeness (fun r' M' => r' = (some (.int (lkn τ p q))) ∧ RO (τ) M0 M') 0 [some (.ref 25), some (.int (nI p)), some (.int (nI q)), none] [] M 0 0 from HH M0 ⟨hW0, Off.rf M0⟩
  intro M hW
  have hn12 := hw.1.1
  have hwd := (hw.2 p hp).1
  have hhg := (hw.2 p hp).2
  refine aw_aload0 0 dX12_likeness_0 ?_
  refine aw_iload1 1 dX12_likeness_1 ?_
  refine rw_call1 2 dX12_likeness_2 (c_X12_sumOf hw hp) ckV_RX12_149 cd_X12_sumOf rfl hW rfl (Nat.le_of_ble_eq_true rfl) ⟨⟨by decide, by decide⟩, by decide, by decide⟩ rfl (fun M hW => ?_)
  refine aw_aload0 5 dX12_likeness_5 ?_
  refine aw_iload1 6 dX12_likeness_6 ?_
  refine rw_call1 7 dX12_likeness_7 (c_X12_manySquares hw hp) ckV_RX12_128 cd_X12_manySquares rfl hW rfl (Nat.le_of_ble_eq_true rfl) ⟨⟨by decide, by decide⟩, by decide, by decide⟩ rfl (fun M hW => ?_)
  refine aw_idiv 10 dX12_likeness_10 (mny_ne hw hp) ?_
  refine aw_aload0 11 dX12_likeness_11 ?_
  refine aw_iload2 12 dX12_likeness_12 ?_
  refine rw_call1 13 dX12_likeness_13 (c_X12_sumOf hw hq) ckV_RX12_149 cd_X12_sumOf rfl hW rfl (Nat.le_of_ble_eq_true rfl) ⟨⟨by decide, by decide⟩, by decide, by decide⟩ rfl (fun M hW => ?_)
  refine aw_aload0 16 dX12_likeness_16 ?_
  refine aw_iload2 17 dX12_likeness_17 ?_
  refine rw_call1 18 dX12_likeness_18 (c_X12_manySquares hw hq) ckV_RX12_128 cd_X12_manySquares rfl hW rfl (Nat.le_of_ble_eq_true rfl) ⟨⟨by decide, by decide⟩, by decide, by decide⟩ rfl (fun M hW => ?_)
  refine aw_idiv 21 dX12_likeness_21 (mny_ne hw hq) ?_
  refine aw_isub 22 dX12_likeness_22 ?_
  refine sd_call1 23 dX12_likeness_23 c_X12_sizeOf ckS_RX12_241 cd_X12_sizeOf rfl (Nat.le_of_ble_eq_true rfl) ⟨⟨by decide, by decide⟩, by decide, by decide⟩ rfl ?_
  refine aw_istore3 26 dX12_likeness_26 rfl ?_
  refine aw_iload3 27 dX12_likeness_27 ?_
  refine aw_aload0 28 dX12_likeness_28 ?_
  refine aw_iload1 29 dX12_likeness_29 ?_
  refine aw_ic0 30 dX12_likeness_30 ?_
  refine rw_call1 31 dX12_likeness_31 (c_X12_extreme hw hp) ckV_RX12_283 cd_X12_extreme rfl hW rfl (Nat.le_of_ble_eq_true rfl) ⟨⟨by decide, by decide⟩, by decide, by decide⟩ rfl (fun M hW => ?_)
  refine aw_aload0 34 dX12_likeness_34 ?_
  refine aw_iload2 35 dX12_likeness_35 ?_
  refine aw_ic0 36 dX12_likeness_36 ?_
  refine rw_call1 37 dX12_likeness_37 (c_X12_extreme hw hq) ckV_RX12_283 cd_X12_extreme rfl hW rfl (Nat.le_of_ble_eq_true rfl) ⟨⟨by decide, by decide⟩, by decide, by decide⟩ rfl (fun M hW => ?_)
  refine aw_isub 40 dX12_likeness_40 ?_
  refine sd_call1 41 dX12_likeness_41 c_X12_sizeOf ckS_RX12_241 cd_X12_sizeOf rfl (Nat.le_of_ble_eq_true rfl) ⟨⟨by decide, by decide⟩, by decide, by decide⟩ rfl ?_
  refine aw_iadd 44 dX12_likeness_44 ?_
  refine aw_aload0 45 dX12_likeness_45 ?_
  refine aw_iload1 46 dX12_likeness_46 ?_
  refine aw_ic1 47 dX12_likeness_47 ?_
  refine rw_call1 48 dX12_likeness_48 (c_X12_extreme hw hp) ckV_RX12_283 cd_X12_extreme rfl hW rfl (Nat.le_of_ble_eq_true rfl) ⟨⟨by decide, by decide⟩, by decide, by decide⟩ rfl (fun M hW => ?_)
  refine aw_aload0 51 dX12_likeness_51 ?_
  refine aw_iload2 52 dX12_likeness_52 ?_
  refine aw_ic1 53 dX12_likeness_53 ?_
  refine rw_call1 54 dX12_likeness_54 (c_X12_extreme hw hq) ckV_RX12_283 cd_X12_extreme rfl hW rfl (Nat.le_of_ble_eq_true rfl) ⟨⟨by decide, by decide⟩, by decide, by decide⟩ rfl (fun M hW => ?_)
  refine aw_isub 57 dX12_likeness_57 ?_
  refine sd_call1 58 dX12_likeness_58 c_X12_sizeOf ckS_RX12_241 cd_X12_sizeOf rfl (Nat.le_of_ble_eq_true rfl) ⟨⟨by decide, by decide⟩, by decide, by decide⟩ rfl ?_
  refine aw_iadd 61 dX12_likeness_61 ?_
  refine aw_iret 62 dX12_likeness_62 rfl (Nat.zero_le _) (Nat.zero_le _) ?_
  exact ⟨rfl, hW⟩

def nxt (τ : TT) (p : Nat) : Int32 := if τ 16 p < 0 ∨ τ 16 p = 0 then -9 else τ 20 p

def rmX12_nextOn : Room := { frames := 1, cells := 0, slots := 0, locals := 21 }
set_option maxHeartbeats 4000000 in
set_option maxRecDepth 100000 in
theorem c_X12_nextOn {τ : TT} {p : Nat} (hp : p < 12) : RD mX12_nextOn rmX12_nextOn [.int (nI p)] τ (some (.int (nxt τ p))) (τ) := by
  intro M0 hW0
  refine am_of rfl rfl (ls := [some (.ref 25), some (.int (nI p))]) rfl ?_
  suffices HH : ∀ M, RO τ M0 M → AW mX12_nextOn rmX12_nextOn (fun r' M' => r' = (some (.int (nxt τ p))) ∧ RO (τ) M0 M') 0 [some (.ref 25), some (.int (nI p))] [] M 0 0 from HH M0 ⟨hW0, Off.rf M0⟩
  intro M hW
  refine aw_aload0 0 dX12_nextOn_0 ?_
  refine aw_iload1 1 dX12_nextOn_1 ?_
  refine rw_call1 2 dX12_nextOn_2 (c_X12_noLine hp) ckV_RX12_227 cd_X12_noLine rfl hW rfl (Nat.le_of_ble_eq_true rfl) ⟨⟨by decide, by decide⟩, by decide, by decide⟩ rfl (fun M hW => ?_)
  refine aw_ifne_b 5 17 dX12_nextOn_5 (by decide) (fun h5 => ?_) (fun h5 => ?_)
  · refine aw_bipush 17 (-9) dX12_nextOn_17 (by decide) ?_
    refine aw_goto 19 28 dX12_nextOn_19 (by decide) ?_
    refine aw_iret 28 dX12_nextOn_28 rfl (Nat.zero_le _) (Nat.zero_le _) ?_
    refine ⟨?_, hW⟩
    unfold nxt
    first
      | (rw [if_pos (Or.inl h5)]; done)
      | (rw [if_pos (Or.inr h14)]; done)
      | (rw [if_neg (fun q => q.elim h5 h14)]; done)
  · refine aw_aload0 8 dX12_nextOn_8 ?_
    refine rw_ga 9 16 dX12_nextOn_9 ckF_RX12_37_12 (by decide) (by decide) hW ?_
    refine aw_iload1 12 dX12_nextOn_12 ?_
    refine rw_ld 13 16 (p) dX12_nextOn_13 hW rfl (show p < 12 by omega) ?_
    refine aw_if_ne 14 22 dX12_nextOn_14 (by decide) (fun h14 => ?_) (fun h14 => ?_)
    · refine aw_aload0 22 dX12_nextOn_22 ?_
      refine rw_ga 23 20 dX12_nextOn_23 ckF_RX12_49_12 (by decide) (by decide) hW ?_
      refine aw_iload1 26 dX12_nextOn_26 ?_
      refine rw_ld 27 20 (p) dX12_nextOn_27 hW rfl (show p < 12 by omega) ?_
      refine aw_iret 28 dX12_nextOn_28 rfl (Nat.zero_le _) (Nat.zero_le _) ?_
      refine ⟨?_, hW⟩
      unfold nxt
      first
        | (rw [if_pos (Or.inl h5)]; done)
        | (rw [if_pos (Or.inr h14)]; done)
        | (rw [if_neg (fun q => q.elim h5 h14)]; done)
    · refine aw_bipush 17 (-9) dX12_nextOn_17 (by decide) ?_
      refine aw_goto 19 28 dX12_nextOn_19 (by decide) ?_
      refine aw_iret 28 dX12_nextOn_28 rfl (Nat.zero_le _) (Nat.zero_le _) ?_
      refine ⟨?_, hW⟩
      unfold nxt
      first
        | (rw [if_pos (Or.inl h5)]; done)
        | (rw [if_pos (Or.inr h14)]; done)
        | (rw [if_neg (fun q => q.elim h5 h14)]; done)

def ncl (τ : TT) (k : Nat) (i : Int32) : Int32 := if τ 28 k < 0 then 1 else if ir i (ssz τ k) then 0 else 3

def rmX12_noCell : Room := { frames := 1, cells := 0, slots := 0, locals := 25 }
set_option maxHeartbeats 4000000 in
set_option maxRecDepth 100000 in
theorem c_X12_noCell {τ : TT} {k : Nat} {i : Int32} (hw : WS τ) (hk : k < 4) : RD mX12_noCell rmX12_noCell [.int (nI k), .int i] τ (some (.int (ncl τ k i))) (τ) := by
  intro M0 hW0
  refine am_of rfl rfl (ls := [some (.ref 25), some (.int (nI k)), some (.int i)]) rfl ?_
  suffices HH : ∀ M, RO τ M0 M → AW mX12_noCell rmX12_noCell (fun r' M' => r' = (some (.int (ncl τ k i))) ∧ RO (τ) M0 M') 0 [some (.ref 25), some (.int (nI k)), some (.int i)] [] M 0 0 from HH M0 ⟨hW0, Off.rf M0⟩
  intro M hW
  refine aw_aload0 0 dX12_noCell_0 ?_
  refine rw_ga 1 28 dX12_noCell_1 ckF_RX12_67_12 (by decide) (by decide) hW ?_
  refine aw_iload1 4 dX12_noCell_4 ?_
  refine rw_ld 5 28 (k) dX12_noCell_5 hW rfl (show k < 4 by omega) ?_
  refine aw_if_ge 6 13 dX12_noCell_6 (by decide) (fun h6 => ?_) (fun h6 => ?_)
  · have hs : ssz τ k ≤ 60 ∧ τ 28 k = nI (ssz τ k) := (hw k hk).resolve_left (fun q => by rw [q] at h6; exact absurd h6 (by decide))
    refine aw_iload2 13 dX12_noCell_13 ?_
    refine aw_i2l 14 dX12_noCell_14 ?_
    refine aw_lc0 15 dX12_noCell_15 ?_
    refine aw_aload0 16 dX12_noCell_16 ?_
    refine rw_ga 17 28 dX12_noCell_17 ckF_RX12_67_12 (by decide) (by decide) hW ?_
    refine aw_iload1 20 dX12_noCell_20 ?_
    refine rw_ld 21 28 (k) dX12_noCell_21 hW rfl (show k < 4 by omega) ?_
    refine aw_i2l 22 dX12_noCell_22 ?_
    refine aw_lc1 23 dX12_noCell_23 ?_
    refine aw_lsub 24 dX12_noCell_24 ?_
    refine sd_call1 25 dX12_noCell_25 (c_in2 0 ((ssz τ k : Int) - 1) (by decide) (by rw [hs.2]; exact n12m1 _ (by omega))) ckS_RX12_99 cd_X12_in rfl (Nat.le_of_ble_eq_true rfl) ⟨⟨by decide, by decide⟩, by decide, by decide⟩ rfl ?_
    refine aw_ifeq_b 28 35 dX12_noCell_28 (by decide) (fun h28 => ?_) (fun h28 => ?_)
    · refine aw_ic3 35 dX12_noCell_35 ?_
      refine aw_iret 36 dX12_noCell_36 rfl (Nat.zero_le _) (Nat.zero_le _) ?_
      refine ⟨?_, hW⟩
      unfold ncl
      first
        | (rw [if_pos (Int32.not_le.mp h6)]; done)
        | (rw [if_neg (Int32.not_lt.mpr h6), if_pos (show ir i (ssz τ k) from ⟨h28.1, by have := h28.2; omega⟩)]; done)
        | (rw [if_neg (Int32.not_lt.mpr h6), if_neg (show ¬ ir i (ssz τ k) from fun q => h28 ⟨q.1, by have := q.2; omega⟩)]; done)
    · refine aw_ic0 31 dX12_noCell_31 ?_
      refine aw_goto 32 36 dX12_noCell_32 (by decide) ?_
      refine aw_iret 36 dX12_noCell_36 rfl (Nat.zero_le _) (Nat.zero_le _) ?_
      refine ⟨?_, hW⟩
      unfold ncl
      first
        | (rw [if_pos (Int32.not_le.mp h6)]; done)
        | (rw [if_neg (Int32.not_lt.mpr h6), if_pos (show ir i (ssz τ k) from ⟨h28.1, by have := h28.2; omega⟩)]; done)
        | (rw [if_neg (Int32.not_lt.mpr h6), if_neg (show ¬ ir i (ssz τ k) from fun q => h28 ⟨q.1, by have := q.2; omega⟩)]; done)
  · refine aw_ic1 9 dX12_noCell_9 ?_
    refine aw_goto 10 36 dX12_noCell_10 (by decide) ?_
    refine aw_iret 36 dX12_noCell_36 rfl (Nat.zero_le _) (Nat.zero_le _) ?_
    refine ⟨?_, hW⟩
    unfold ncl
    first
      | (rw [if_pos (Int32.not_le.mp h6)]; done)
      | (rw [if_neg (Int32.not_lt.mpr h6), if_pos (show ir i (ssz τ k) from ⟨h28.1, by have := h28.2; omega⟩)]; done)
      | (rw [if_neg (Int32.not_lt.mpr h6), if_neg (show ¬ ir i (ssz τ k) from fun q => h28 ⟨q.1, by have := q.2; omega⟩)]; done)

def rmX12_traced : Room := { frames := 0, cells := 0, slots := 0, locals := 0 }
set_option maxHeartbeats 4000000 in
set_option maxRecDepth 100000 in
theorem c_X12_traced {τ : TT} {n : Int32} : RD mX12_traced rmX12_traced [.int n] τ (none) (tu τ 32 0 (31 * τ 32 0 + n)) := by
  intro M0 hW0
  refine am_of rfl rfl (ls := [some (.ref 25), some (.int n)]) rfl ?_
  suffices HH : ∀ M, RO τ M0 M → AW mX12_traced rmX12_traced (fun r' M' => r' = (none) ∧ RO (tu τ 32 0 (31 * τ 32 0 + n)) M0 M') 0 [some (.ref 25), some (.int n)] [] M 0 0 from HH M0 ⟨hW0, Off.rf M0⟩
  intro M hW
  refine aw_aload0 0 dX12_traced_0 ?_
  refine aw_bipush 1 31 dX12_traced_1 (by decide) ?_
  refine aw_aload0 3 dX12_traced_3 ?_
  refine rw_gi 4 32 dX12_traced_4 ckF_RX12_304_12 (by decide) rfl hW ?_
  refine aw_imul 7 dX12_traced_7 ?_
  refine aw_iload1 8 dX12_traced_8 ?_
  refine aw_iadd 9 dX12_traced_9 ?_
  refine rw_pi 10 32 dX12_traced_10 ckF_RX12_304_12 ckP12_32 rfl (by decide) rfl hW (fun M hW => ?_)
  refine aw_vret 13 dX12_traced_13 rfl (Nat.zero_le _) (Nat.zero_le _) ?_
  exact ⟨rfl, hW⟩

abbrev hbt (s : Int32) (k : Nat) : Prop := (s >>> (nI k &&& 31)) &&& 1 = 1
def olk (τ : TT) (s w : Int32) : Nat → Int32
  | 0 => 0
  | k + 1 => olk τ s w k + (if ¬ hbt s k then 0 else if w = 1 then τ 27 k else τ 26 k)

def rmX12_ofLooks : Room := { frames := 1, cells := 0, slots := 0, locals := 21 }
set_option maxHeartbeats 4000000 in
set_option maxRecDepth 100000 in
theorem c_X12_ofLooks {τ : TT} {s w : Int32} (hw : nK τ ≤ 9 ∧ τ 24 0 = nI (nK τ)) : RD mX12_ofLooks rmX12_ofLooks [.int s, .int w] τ (some (.int (olk τ s w (nK τ)))) (τ) := by
  intro M0 hW0
  refine am_of rfl rfl (ls := [some (.ref 25), some (.int s), some (.int w), none, none]) rfl ?_
  suffices HH : ∀ M, RO τ M0 M → AW mX12_ofLooks rmX12_ofLooks (fun r' M' => r' = (some (.int (olk τ s w (nK τ)))) ∧ RO (τ) M0 M') 0 [some (.ref 25), some (.int s), some (.int w), none, none] [] M 0 0 from HH M0 ⟨hW0, Off.rf M0⟩
  intro M hW
  refine aw_ic0 0 dX12_ofLooks_0 ?_
  refine aw_istore3 1 dX12_ofLooks_1 rfl ?_
  refine aw_ic0 2 dX12_ofLooks_2 ?_
  refine aw_istore4 3 dX12_ofLooks_3 rfl ?_
  have LP5 : ∀ (dd : Nat) (k : Nat) (M : Mem), nK τ - k = dd → k ≤ nK τ → RO τ M0 M → AW mX12_ofLooks rmX12_ofLooks (fun r' M' => r' = (some (.int (olk τ s w (nK τ)))) ∧ RO (τ) M0 M') 5 [some (.ref 25), some (.int s), some (.int w), some (.int (olk τ s w k)), some (.int (nI k))] [] M 0 0 := by
    intro dd
    induction dd using Nat.strongRecOn with
    | _ dd ih5 =>
      intro k M hdd hk hW
      refine aw_iload4 5 dX12_ofLooks_5 ?_
      refine aw_aload0 7 dX12_ofLooks_7 ?_
      refine rw_gi 8 24 dX12_ofLooks_8 ckF_RX12_291_12 (by decide) rfl hW ?_
      refine aw_topi (hw.2) ?_
      refine aw_icmp_geN 11 58 (k) (nK τ) dX12_ofLooks_11 (by decide) rfl rfl (by omega) (by omega) (fun h11 => ?_) (fun h11 => ?_)
      · refine aw_iload3 58 dX12_ofLooks_58 ?_
        refine aw_iret 59 dX12_ofLooks_59 rfl (Nat.zero_le _) (Nat.zero_le _) ?_
        have he : k = nK τ := by omega
        subst he
        exact ⟨rfl, hW⟩
      · refine aw_iload3 14 dX12_ofLooks_14 ?_
        refine aw_iload1 15 dX12_ofLooks_15 ?_
        refine aw_iload4 16 dX12_ofLooks_16 ?_
        refine sd_call1 18 dX12_ofLooks_18 (c_X12_hasBit (s := s) (k := nI k)) ckS_RX12_262 cd_X12_hasBit rfl (Nat.le_of_ble_eq_true rfl) ⟨⟨by decide, by decide⟩, by decide, by decide⟩ rfl ?_
        refine aw_ifne_b 21 28 dX12_ofLooks_21 (by decide) (fun h21 => ?_) (fun h21 => ?_)
        · refine aw_iload2 28 dX12_ofLooks_28 ?_
          refine aw_ic1 29 dX12_ofLooks_29 ?_
          refine aw_icmp_ne 30 43 dX12_ofLooks_30 (by decide) (fun h30 => ?_) (fun h30 => ?_)
          · refine aw_aload0 43 dX12_ofLooks_43 ?_
            refine rw_ga 44 26 dX12_ofLooks_44 ckF_RX12_61_12 (by decide) (by decide) hW ?_
            refine aw_iload4 47 dX12_ofLooks_47 ?_
            refine rw_ld 49 26 (k) dX12_ofLooks_49 hW rfl (show k < 9 by omega) ?_
            refine aw_iadd 50 dX12_ofLooks_50 ?_
            rw [show olk τ s w k + _ = olk τ s w (k + 1) by
              show _ = olk τ s w k + ite _ _ _
              first
                | rw [if_pos h21]
                | rw [if_neg (fun q => q h21), if_pos h30]
                | rw [if_neg (fun q => q h21), if_neg h30]]
            refine aw_istore3 51 dX12_ofLooks_51 rfl ?_
            refine aw_iinc4 52 (nI (k + 1)) dX12_ofLooks_52 (nI_1 _) rfl ?_
            refine aw_goto 55 5 dX12_ofLooks_55 (by decide) ?_
            exact ih5 _ (by omega) (k + 1) M rfl (by omega) hW
          · refine aw_aload0 33 dX12_ofLooks_33 ?_
            refine rw_ga 34 27 dX12_ofLooks_34 ckF_RX12_64_12 (by decide) (by decide) hW ?_
            refine aw_iload4 37 dX12_ofLooks_37 ?_
            refine rw_ld 39 27 (k) dX12_ofLooks_39 hW rfl (show k < 9 by omega) ?_
            refine aw_goto 40 50 dX12_ofLooks_40 (by decide) ?_
            refine aw_iadd 50 dX12_ofLooks_50 ?_
            rw [show olk τ s w k + _ = olk τ s w (k + 1) by
              show _ = olk τ s w k + ite _ _ _
              first
                | rw [if_pos h21]
                | rw [if_neg (fun q => q h21), if_pos h30]
                | rw [if_neg (fun q => q h21), if_neg h30]]
            refine aw_istore3 51 dX12_ofLooks_51 rfl ?_
            refine aw_iinc4 52 (nI (k + 1)) dX12_ofLooks_52 (nI_1 _) rfl ?_
            refine aw_goto 55 5 dX12_ofLooks_55 (by decide) ?_
            exact ih5 _ (by omega) (k + 1) M rfl (by omega) hW
        · refine aw_ic0 24 dX12_ofLooks_24 ?_
          refine aw_goto 25 50 dX12_ofLooks_25 (by decide) ?_
          refine aw_iadd 50 dX12_ofLooks_50 ?_
          rw [show olk τ s w k + _ = olk τ s w (k + 1) by
            show _ = olk τ s w k + ite _ _ _
            first
              | rw [if_pos h21]
              | rw [if_neg (fun q => q h21), if_pos h30]
              | rw [if_neg (fun q => q h21), if_neg h30]]
          refine aw_istore3 51 dX12_ofLooks_51 rfl ?_
          refine aw_iinc4 52 (nI (k + 1)) dX12_ofLooks_52 (nI_1 _) rfl ?_
          refine aw_goto 55 5 dX12_ofLooks_55 (by decide) ?_
          exact ih5 _ (by omega) (k + 1) M rfl (by omega) hW
  exact LP5 _ 0 M rfl (Nat.zero_le _) hW

def bar (τ : TT) (k : Nat) (lane i : Int32) (c : Int64) : Int32 := if 0 ≤ τ 28 k ∧ ¬ τ 29 k = lane then 2 else if τ 28 k < 0 then 1 else if c < 0 then 4 else if i < 0 ∨ c < 0 ∨ (τ 28 k).toInt64 < i.toInt64 + c then 3 else 0
def barR (b : Int32) : Int32 := if b = 0 then 0 else -10 - b
def barT (τ : TT) (b : Int32) : TT := if b = 0 then τ else tu τ 0 0 b
theorem rd_rt {Z : YY} {rm : Room} {as : List Value} {τ τ1 τ2 : TT} {r1 r2 : Int32} (h : RD Z rm as τ (some (.int r1)) τ1) (e1 : r1 = r2) (e2 : τ1 = τ2) : RD Z rm as τ (some (.int r2)) τ2 := e1 ▸ e2 ▸ h

def rmX12_barred : Room := { frames := 1, cells := 0, slots := 0, locals := 23 }
set_option maxHeartbeats 4000000 in
set_option maxRecDepth 100000 in
theorem c_X12_barred {τ : TT} {k : Nat} {lane i : Int32} {c : Int64} (hk : k < 4) : RD mX12_barred rmX12_barred [.int (nI k), .int lane, .int i, .long c] τ (some (.int (barR (bar τ k lane i c)))) (barT τ (bar τ k lane i c)) := by
  intro M0 hW0
  refine am_of rfl rfl (ls := [some (.ref 25), some (.int (nI k)), some (.int lane), some (.int i), some (.long c), none]) rfl ?_
  suffices HH : ∀ M, RO τ M0 M → AW mX12_barred rmX12_barred (fun r' M' => r' = (some (.int (barR (bar τ k lane i c)))) ∧ RO (barT τ (bar τ k lane i c)) M0 M') 0 [some (.ref 25), some (.int (nI k)), some (.int lane), some (.int i), some (.long c), none] [] M 0 0 from HH M0 ⟨hW0, Off.rf M0⟩
  intro M hW
  refine aw_aload0 0 dX12_barred_0 ?_
  refine rw_ga 1 28 dX12_barred_1 ckF_RX12_67_12 (by decide) (by decide) hW ?_
  refine aw_iload1 4 dX12_barred_4 ?_
  refine rw_ld 5 28 (k) dX12_barred_5 hW rfl (show k < 4 by omega) ?_
  refine aw_if_lt 6 25 dX12_barred_6 (by decide) (fun h6 => ?_) (fun h6 => ?_)
  · refine aw_aload0 25 dX12_barred_25 ?_
    refine rw_ga 26 28 dX12_barred_26 ckF_RX12_67_12 (by decide) (by decide) hW ?_
    refine aw_iload1 29 dX12_barred_29 ?_
    refine rw_ld 30 28 (k) dX12_barred_30 hW rfl (show k < 4 by omega) ?_
    refine aw_if_ge 31 40 dX12_barred_31 (by decide) (fun h31 => ?_) (fun h31 => ?_)
    · refine aw_lload4 40 dX12_barred_40 ?_
      refine aw_lc0 42 dX12_barred_42 ?_
      refine aw_lcmp 43 dX12_barred_43 ?_
      refine aw_if_ge 44 53 dX12_barred_44 (by decide) (fun h44 => ?_) (fun h44 => ?_)
      · rw [lc_ge] at h44
        have hc0 : ¬ c < 0 := Int64.not_lt.mpr h44
        have h1 : ¬ (0 ≤ τ 28 k ∧ ¬ τ 29 k = lane) := by
          first
            | exact fun q => q.2 h16
            | exact fun q => absurd h31 (Int32.not_le.mpr h6)
        refine aw_iload3 53 dX12_barred_53 ?_
        refine aw_lload4 54 dX12_barred_54 ?_
        refine aw_aload0 56 dX12_barred_56 ?_
        refine rw_ga 57 28 dX12_barred_57 ckF_RX12_67_12 (by decide) (by decide) hW ?_
        refine aw_iload1 60 dX12_barred_60 ?_
        refine rw_ld 61 28 (k) dX12_barred_61 hW rfl (show k < 4 by omega) ?_
        refine sd_call1 62 dX12_barred_62 c_X12_isBeyond ckS_RX12_93 cd_X12_isBeyond rfl (Nat.le_of_ble_eq_true rfl) ⟨⟨by decide, by decide⟩, by decide, by decide⟩ rfl ?_
        refine aw_ifeq_b 65 76 dX12_barred_65 (by decide) (fun h65 => ?_) (fun h65 => ?_)
        · refine aw_ic0 76 dX12_barred_76 ?_
          refine aw_iret 77 dX12_barred_77 rfl (Nat.zero_le _) (Nat.zero_le _) ?_
          first
            | (have hb : bar τ k lane i c = 3 := by
                 unfold bar
                 rw [if_neg h1, if_neg (Int32.not_lt.mpr h31), if_neg hc0, if_pos h65]
               rw [hb]
               exact ⟨by decide, ro_eq hW (by unfold barT; rw [if_neg (by decide)])⟩)
            | (have hb : bar τ k lane i c = 0 := by
                 unfold bar
                 rw [if_neg h1, if_neg (Int32.not_lt.mpr h31), if_neg hc0, if_neg h65]
               rw [hb]
               exact ⟨by decide, ro_eq hW (by unfold barT; rw [if_pos rfl])⟩)
        · refine aw_aload0 68 dX12_barred_68 ?_
          refine aw_ic3 69 dX12_barred_69 ?_
          refine rw_call1 70 dX12_barred_70 c_X12_failed ckV_RX12_89 cd_X12_failed rfl hW rfl (Nat.le_of_ble_eq_true rfl) ⟨⟨by decide, by decide⟩, by decide, by decide⟩ rfl (fun M hW => ?_)
          refine aw_goto 73 77 dX12_barred_73 (by decide) ?_
          refine aw_iret 77 dX12_barred_77 rfl (Nat.zero_le _) (Nat.zero_le _) ?_
          first
            | (have hb : bar τ k lane i c = 3 := by
                 unfold bar
                 rw [if_neg h1, if_neg (Int32.not_lt.mpr h31), if_neg hc0, if_pos h65]
               rw [hb]
               exact ⟨by decide, ro_eq hW (by unfold barT; rw [if_neg (by decide)])⟩)
            | (have hb : bar τ k lane i c = 0 := by
                 unfold bar
                 rw [if_neg h1, if_neg (Int32.not_lt.mpr h31), if_neg hc0, if_neg h65]
               rw [hb]
               exact ⟨by decide, ro_eq hW (by unfold barT; rw [if_pos rfl])⟩)
      · rw [lc_ge, Int64.not_le] at h44
        have hc0 : c < 0 := h44
        have h1 : ¬ (0 ≤ τ 28 k ∧ ¬ τ 29 k = lane) := by
          first
            | exact fun q => q.2 h16
            | exact fun q => absurd h31 (Int32.not_le.mpr h6)
        refine aw_aload0 47 dX12_barred_47 ?_
        refine aw_ic4 48 dX12_barred_48 ?_
        refine rw_call1 49 dX12_barred_49 c_X12_failed ckV_RX12_89 cd_X12_failed rfl hW rfl (Nat.le_of_ble_eq_true rfl) ⟨⟨by decide, by decide⟩, by decide, by decide⟩ rfl (fun M hW => ?_)
        refine aw_iret 52 dX12_barred_52 rfl (Nat.zero_le _) (Nat.zero_le _) ?_
        have hb : bar τ k lane i c = 4 := by
          unfold bar
          rw [if_neg h1, if_neg (Int32.not_lt.mpr h31), if_pos hc0]
        rw [hb]
        exact ⟨by decide, ro_eq hW (by unfold barT; rw [if_neg (by decide)])⟩
    · refine aw_aload0 34 dX12_barred_34 ?_
      refine aw_ic1 35 dX12_barred_35 ?_
      refine rw_call1 36 dX12_barred_36 c_X12_failed ckV_RX12_89 cd_X12_failed rfl hW rfl (Nat.le_of_ble_eq_true rfl) ⟨⟨by decide, by decide⟩, by decide, by decide⟩ rfl (fun M hW => ?_)
      refine aw_iret 39 dX12_barred_39 rfl (Nat.zero_le _) (Nat.zero_le _) ?_
      have hb : bar τ k lane i c = 1 := by
        unfold bar
        rw [if_neg (fun q => absurd q.1 (Int32.not_le.mpr (Int32.not_le.mp h31))), if_pos (Int32.not_le.mp h31)]
      rw [hb]
      exact ⟨by decide, ro_eq hW (by unfold barT; rw [if_neg (by decide)])⟩
  · refine aw_aload0 9 dX12_barred_9 ?_
    refine rw_ga 10 29 dX12_barred_10 ckF_RX12_70_12 (by decide) (by decide) hW ?_
    refine aw_iload1 13 dX12_barred_13 ?_
    refine rw_ld 14 29 (k) dX12_barred_14 hW rfl (show k < 4 by omega) ?_
    refine aw_iload2 15 dX12_barred_15 ?_
    refine aw_icmp_eq 16 25 dX12_barred_16 (by decide) (fun h16 => ?_) (fun h16 => ?_)
    · refine aw_aload0 25 dX12_barred_25 ?_
      refine rw_ga 26 28 dX12_barred_26 ckF_RX12_67_12 (by decide) (by decide) hW ?_
      refine aw_iload1 29 dX12_barred_29 ?_
      refine rw_ld 30 28 (k) dX12_barred_30 hW rfl (show k < 4 by omega) ?_
      refine aw_if_ge 31 40 dX12_barred_31 (by decide) (fun h31 => ?_) (fun h31 => ?_)
      · refine aw_lload4 40 dX12_barred_40 ?_
        refine aw_lc0 42 dX12_barred_42 ?_
        refine aw_lcmp 43 dX12_barred_43 ?_
        refine aw_if_ge 44 53 dX12_barred_44 (by decide) (fun h44 => ?_) (fun h44 => ?_)
        · rw [lc_ge] at h44
          have hc0 : ¬ c < 0 := Int64.not_lt.mpr h44
          have h1 : ¬ (0 ≤ τ 28 k ∧ ¬ τ 29 k = lane) := by
            first
              | exact fun q => q.2 h16
              | exact fun q => absurd h31 (Int32.not_le.mpr h6)
          refine aw_iload3 53 dX12_barred_53 ?_
          refine aw_lload4 54 dX12_barred_54 ?_
          refine aw_aload0 56 dX12_barred_56 ?_
          refine rw_ga 57 28 dX12_barred_57 ckF_RX12_67_12 (by decide) (by decide) hW ?_
          refine aw_iload1 60 dX12_barred_60 ?_
          refine rw_ld 61 28 (k) dX12_barred_61 hW rfl (show k < 4 by omega) ?_
          refine sd_call1 62 dX12_barred_62 c_X12_isBeyond ckS_RX12_93 cd_X12_isBeyond rfl (Nat.le_of_ble_eq_true rfl) ⟨⟨by decide, by decide⟩, by decide, by decide⟩ rfl ?_
          refine aw_ifeq_b 65 76 dX12_barred_65 (by decide) (fun h65 => ?_) (fun h65 => ?_)
          · refine aw_ic0 76 dX12_barred_76 ?_
            refine aw_iret 77 dX12_barred_77 rfl (Nat.zero_le _) (Nat.zero_le _) ?_
            first
              | (have hb : bar τ k lane i c = 3 := by
                   unfold bar
                   rw [if_neg h1, if_neg (Int32.not_lt.mpr h31), if_neg hc0, if_pos h65]
                 rw [hb]
                 exact ⟨by decide, ro_eq hW (by unfold barT; rw [if_neg (by decide)])⟩)
              | (have hb : bar τ k lane i c = 0 := by
                   unfold bar
                   rw [if_neg h1, if_neg (Int32.not_lt.mpr h31), if_neg hc0, if_neg h65]
                 rw [hb]
                 exact ⟨by decide, ro_eq hW (by unfold barT; rw [if_pos rfl])⟩)
          · refine aw_aload0 68 dX12_barred_68 ?_
            refine aw_ic3 69 dX12_barred_69 ?_
            refine rw_call1 70 dX12_barred_70 c_X12_failed ckV_RX12_89 cd_X12_failed rfl hW rfl (Nat.le_of_ble_eq_true rfl) ⟨⟨by decide, by decide⟩, by decide, by decide⟩ rfl (fun M hW => ?_)
            refine aw_goto 73 77 dX12_barred_73 (by decide) ?_
            refine aw_iret 77 dX12_barred_77 rfl (Nat.zero_le _) (Nat.zero_le _) ?_
            first
              | (have hb : bar τ k lane i c = 3 := by
                   unfold bar
                   rw [if_neg h1, if_neg (Int32.not_lt.mpr h31), if_neg hc0, if_pos h65]
                 rw [hb]
                 exact ⟨by decide, ro_eq hW (by unfold barT; rw [if_neg (by decide)])⟩)
              | (have hb : bar τ k lane i c = 0 := by
                   unfold bar
                   rw [if_neg h1, if_neg (Int32.not_lt.mpr h31), if_neg hc0, if_neg h65]
                 rw [hb]
                 exact ⟨by decide, ro_eq hW (by unfold barT; rw [if_pos rfl])⟩)
        · rw [lc_ge, Int64.not_le] at h44
          have hc0 : c < 0 := h44
          have h1 : ¬ (0 ≤ τ 28 k ∧ ¬ τ 29 k = lane) := by
            first
              | exact fun q => q.2 h16
              | exact fun q => absurd h31 (Int32.not_le.mpr h6)
          refine aw_aload0 47 dX12_barred_47 ?_
          refine aw_ic4 48 dX12_barred_48 ?_
          refine rw_call1 49 dX12_barred_49 c_X12_failed ckV_RX12_89 cd_X12_failed rfl hW rfl (Nat.le_of_ble_eq_true rfl) ⟨⟨by decide, by decide⟩, by decide, by decide⟩ rfl (fun M hW => ?_)
          refine aw_iret 52 dX12_barred_52 rfl (Nat.zero_le _) (Nat.zero_le _) ?_
          have hb : bar τ k lane i c = 4 := by
            unfold bar
            rw [if_neg h1, if_neg (Int32.not_lt.mpr h31), if_pos hc0]
          rw [hb]
          exact ⟨by decide, ro_eq hW (by unfold barT; rw [if_neg (by decide)])⟩
      · refine aw_aload0 34 dX12_barred_34 ?_
        refine aw_ic1 35 dX12_barred_35 ?_
        refine rw_call1 36 dX12_barred_36 c_X12_failed ckV_RX12_89 cd_X12_failed rfl hW rfl (Nat.le_of_ble_eq_true rfl) ⟨⟨by decide, by decide⟩, by decide, by decide⟩ rfl (fun M hW => ?_)
        refine aw_iret 39 dX12_barred_39 rfl (Nat.zero_le _) (Nat.zero_le _) ?_
        have hb : bar τ k lane i c = 1 := by
          unfold bar
          rw [if_neg (fun q => absurd q.1 (Int32.not_le.mpr (Int32.not_le.mp h31))), if_pos (Int32.not_le.mp h31)]
        rw [hb]
        exact ⟨by decide, ro_eq hW (by unfold barT; rw [if_neg (by decide)])⟩
    · refine aw_aload0 19 dX12_barred_19 ?_
      refine aw_ic2 20 dX12_barred_20 ?_
      refine rw_call1 21 dX12_barred_21 c_X12_failed ckV_RX12_89 cd_X12_failed rfl hW rfl (Nat.le_of_ble_eq_true rfl) ⟨⟨by decide, by decide⟩, by decide, by decide⟩ rfl (fun M hW => ?_)
      refine aw_iret 24 dX12_barred_24 rfl (Nat.zero_le _) (Nat.zero_le _) ?_
      have hb : bar τ k lane i c = 2 := by
        unfold bar
        rw [if_pos ⟨Int32.not_lt.mp h6, h16⟩]
      rw [hb]
      exact ⟨by decide, ro_eq hW (by unfold barT; rw [if_neg (by decide)])⟩

