/-! the reference: its readers (rows laid by gen/ref2.py). What a table is like -/
def nP (τ : TT) : Nat := (τ 1 0).toNatClampNeg
def nL (τ : TT) : Nat := (τ 13 0).toNatClampNeg
def nK (τ : TT) : Nat := (τ 24 0).toNatClampNeg
def wd (τ : TT) (p : Nat) : Nat := (τ 2 p).toNatClampNeg
def hg (τ : TT) (p : Nat) : Nat := (τ 3 p).toNatClampNeg
/-- pictures: how many, how wide, how high -/
def WP (τ : TT) : Prop := (nP τ ≤ 12 ∧ τ 1 0 = nI (nP τ)) ∧ ∀ p, p < nP τ → (1 ≤ wd τ p ∧ wd τ p ≤ 4 ∧ τ 2 p = nI (wd τ p)) ∧ (1 ≤ hg τ p ∧ hg τ p ≤ 4 ∧ τ 3 p = nI (hg τ p))
abbrev thr (τ : TT) (p k : Nat) : Prop := k % 4 < wd τ p ∧ k / 4 < hg τ p
def plc (τ : TT) (p k : Nat) : Nat := k % wd τ p + 4 * (k / wd τ p)
def rsum (τ : TT) (p : Nat) : Nat → Int32
  | 0 => 0
  | k + 1 => rsum τ p k + τ 4 (16 * p + plc τ p k)
theorem n12m1 : ∀ n, n < 61 → ((nI n).toInt64 - 1).toInt = (n : Int) - 1 := by decide
theorem ir_of {v : Int32} {n : Nat} (h : ir v n) (hn : n < 2 ^ 31) : ∃ k, k < n ∧ v = nI k := vp_in_of (vp_in_iff.mpr h) hn
theorem ir_nI {k n : Nat} (hn : n < 2 ^ 31) (h : k < n) : ir (nI k) n := by
  unfold ir
  rw [nI_toInt (by omega)]
  omega
theorem rd_r {Z : YY} {rm : Room} {as : List Value} {τ τ' : TT} {r r' : Int32} (h : RD Z rm as τ (some (.int r)) τ') (e : r = r') : RD Z rm as τ (some (.int r')) τ' := e ▸ h
theorem wmul {a b : Nat} (ha : a ≤ 4) (hb : b ≤ 4) : a * b ≤ 16 := by
  have := Nat.mul_le_mul ha hb
  omega
theorem plc_lt {τ : TT} {p k : Nat} (hw : 1 ≤ wd τ p ∧ wd τ p ≤ 4) (hh : hg τ p ≤ 4) (hk : k < wd τ p * hg τ p) : plc τ p k < 16 ∧ thr τ p (plc τ p k) := by
  have h1 : k % wd τ p < wd τ p := Nat.mod_lt _ (by omega)
  have h2 : k / wd τ p < hg τ p := Nat.div_lt_of_lt_mul hk
  unfold plc
  refine ⟨by omega, by omega, by omega⟩

def rmX12_refused : Room := { frames := 0, cells := 0, slots := 0, locals := 0 }
set_option maxHeartbeats 4000000 in
set_option maxRecDepth 100000 in
theorem c_X12_refused {τ : TT} {c : Int32} : RD mX12_refused rmX12_refused [.int c] τ (some (.int c)) (tu τ 0 0 0) := by
  intro M0 hW0
  refine am_of rfl rfl (ls := [some (.ref 25), some (.int c)]) rfl ?_
  suffices HH : ∀ M, RO τ M0 M → AW mX12_refused rmX12_refused (fun r' M' => r' = (some (.int c)) ∧ RO (tu τ 0 0 0) M0 M') 0 [some (.ref 25), some (.int c)] [] M 0 0 from HH M0 ⟨hW0, Off.rf M0⟩
  intro M hW
  refine aw_aload0 0 dX12_refused_0 ?_
  refine aw_ic0 1 dX12_refused_1 ?_
  refine rw_pi 2 0 dX12_refused_2 ckF_RX12_81_12 ckP12_0 rfl (by decide) rfl hW (fun M hW => ?_)
  refine aw_iload1 5 dX12_refused_5 ?_
  refine aw_iret 6 dX12_refused_6 rfl (Nat.zero_le _) (Nat.zero_le _) ?_
  exact ⟨rfl, hW⟩

def rmX12_failed : Room := { frames := 0, cells := 0, slots := 0, locals := 0 }
set_option maxHeartbeats 4000000 in
set_option maxRecDepth 100000 in
theorem c_X12_failed {τ : TT} {c : Int32} : RD mX12_failed rmX12_failed [.int c] τ (some (.int (-10 - c))) (tu τ 0 0 c) := by
  intro M0 hW0
  refine am_of rfl rfl (ls := [some (.ref 25), some (.int c)]) rfl ?_
  suffices HH : ∀ M, RO τ M0 M → AW mX12_failed rmX12_failed (fun r' M' => r' = (some (.int (-10 - c))) ∧ RO (tu τ 0 0 c) M0 M') 0 [some (.ref 25), some (.int c)] [] M 0 0 from HH M0 ⟨hW0, Off.rf M0⟩
  intro M hW
  refine aw_aload0 0 dX12_failed_0 ?_
  refine aw_iload1 1 dX12_failed_1 ?_
  refine rw_pi 2 0 dX12_failed_2 ckF_RX12_81_12 ckP12_0 rfl (by decide) rfl hW (fun M hW => ?_)
  refine aw_bipush 5 (-10) dX12_failed_5 (by decide) ?_
  refine aw_iload1 7 dX12_failed_7 ?_
  refine aw_isub 8 dX12_failed_8 ?_
  refine aw_iret 9 dX12_failed_9 rfl (Nat.zero_le _) (Nat.zero_le _) ?_
  exact ⟨rfl, hW⟩

def rmX12_failedLong : Room := { frames := 1, cells := 0, slots := 0, locals := 19 }
set_option maxHeartbeats 4000000 in
set_option maxRecDepth 100000 in
theorem c_X12_failedLong {τ : TT} {c : Int32} : RD mX12_failedLong rmX12_failedLong [.int c] τ (some (.long (-9223372036854775808))) (tu τ 0 0 c) := by
  intro M0 hW0
  refine am_of rfl rfl (ls := [some (.ref 25), some (.int c)]) rfl ?_
  suffices HH : ∀ M, RO τ M0 M → AW mX12_failedLong rmX12_failedLong (fun r' M' => r' = (some (.long (-9223372036854775808))) ∧ RO (tu τ 0 0 c) M0 M') 0 [some (.ref 25), some (.int c)] [] M 0 0 from HH M0 ⟨hW0, Off.rf M0⟩
  intro M hW
  refine aw_aload0 0 dX12_failedLong_0 ?_
  refine aw_iload1 1 dX12_failedLong_1 ?_
  refine rw_pi 2 0 dX12_failedLong_2 ckF_RX12_81_12 ckP12_0 rfl (by decide) rfl hW (fun M hW => ?_)
  refine sd_call1 5 dX12_failedLong_5 c_X12_lost ckS_RX12_85 cd_X12_lost rfl (Nat.le_of_ble_eq_true rfl) ⟨⟨by decide, by decide⟩, by decide, by decide⟩ rfl ?_
  refine aw_lret 8 dX12_failedLong_8 rfl (Nat.zero_le _) (Nat.zero_le _) ?_
  exact ⟨rfl, hW⟩

def rmX12_noPicture : Room := { frames := 1, cells := 0, slots := 0, locals := 25 }
set_option maxHeartbeats 4000000 in
set_option maxRecDepth 100000 in
theorem c_X12_noPicture {τ : TT} {v : Int32} (hw : WP τ) : RD mX12_noPicture rmX12_noPicture [.int v] τ (some (.int (bi (¬ ir v (nP τ))))) (τ) := by
  intro M0 hW0
  refine am_of rfl rfl (ls := [some (.ref 25), some (.int v)]) rfl ?_
  suffices HH : ∀ M, RO τ M0 M → AW mX12_noPicture rmX12_noPicture (fun r' M' => r' = (some (.int (bi (¬ ir v (nP τ))))) ∧ RO (τ) M0 M') 0 [some (.ref 25), some (.int v)] [] M 0 0 from HH M0 ⟨hW0, Off.rf M0⟩
  intro M hW
  have hn12 := hw.1.1
  refine aw_iload1 0 dX12_noPicture_0 ?_
  refine aw_i2l 1 dX12_noPicture_1 ?_
  refine aw_lc0 2 dX12_noPicture_2 ?_
  refine aw_aload0 3 dX12_noPicture_3 ?_
  refine rw_gi 4 1 dX12_noPicture_4 ckF_RX12_105_12 (by decide) rfl hW ?_
  refine aw_topi (hw.1.2) ?_
  refine aw_i2l 7 dX12_noPicture_7 ?_
  refine aw_lc1 8 dX12_noPicture_8 ?_
  refine aw_lsub 9 dX12_noPicture_9 ?_
  refine sd_call1 10 dX12_noPicture_10 (c_in2 0 ((nP τ : Int) - 1) (by decide) (n12m1 _ (by omega))) ckS_RX12_99 cd_X12_in rfl (Nat.le_of_ble_eq_true rfl) ⟨⟨by decide, by decide⟩, by decide, by decide⟩ rfl ?_
  refine aw_ifne_b 13 20 dX12_noPicture_13 (by decide) (fun h13 => ?_) (fun h13 => ?_)
  · refine aw_ic0 20 dX12_noPicture_20 ?_
    refine aw_zret 21 dX12_noPicture_21 rfl (by first | rfl | exact bi_nar | decide) (Nat.zero_le _) (Nat.zero_le _) ?_
    refine ⟨?_, hW⟩
    unfold ir
    first
      | (rw [bi_f (fun q => q ⟨h13.1, by omega⟩)]; done)
      | (rw [bi_t (show ¬ ((0 : Int) ≤ v.toInt ∧ v.toInt < (nP τ : Int)) from fun q => h13 ⟨q.1, by omega⟩)]; done)
  · refine aw_ic1 16 dX12_noPicture_16 ?_
    refine aw_goto 17 21 dX12_noPicture_17 (by decide) ?_
    refine aw_zret 21 dX12_noPicture_21 rfl (by first | rfl | exact bi_nar | decide) (Nat.zero_le _) (Nat.zero_le _) ?_
    refine ⟨?_, hW⟩
    unfold ir
    first
      | (rw [bi_f (fun q => q ⟨h13.1, by omega⟩)]; done)
      | (rw [bi_t (show ¬ ((0 : Int) ≤ v.toInt ∧ v.toInt < (nP τ : Int)) from fun q => h13 ⟨q.1, by omega⟩)]; done)

def rmX12_isThere : Room := { frames := 1, cells := 0, slots := 0, locals := 25 }
set_option maxHeartbeats 4000000 in
set_option maxRecDepth 100000 in
theorem c_X12_isThere {τ : TT} {p : Nat} {j : Int32} (hw : WP τ) (hp : p < nP τ) : RD mX12_isThere rmX12_isThere [.int (nI p), .int j] τ (some (.int (bi (ir j 16 ∧ thr τ p j.toNatClampNeg)))) (τ) := by
  intro M0 hW0
  refine am_of rfl rfl (ls := [some (.ref 25), some (.int (nI p)), some (.int j)]) rfl ?_
  suffices HH : ∀ M, RO τ M0 M → AW mX12_isThere rmX12_isThere (fun r' M' => r' = (some (.int (bi (ir j 16 ∧ thr τ p j.toNatClampNeg)))) ∧ RO (τ) M0 M') 0 [some (.ref 25), some (.int (nI p)), some (.int j)] [] M 0 0 from HH M0 ⟨hW0, Off.rf M0⟩
  intro M hW
  have hn12 := hw.1.1
  have hwd := (hw.2 p hp).1
  have hhg := (hw.2 p hp).2
  refine aw_iload2 0 dX12_isThere_0 ?_
  refine aw_i2l 1 dX12_isThere_1 ?_
  refine aw_lc0 2 dX12_isThere_2 ?_
  refine aw_ldc2 3 (15) dX12_isThere_3 ckL_RX12_108 ?_
  refine sd_call1 6 dX12_isThere_6 (c_in2 0 15 (by decide) (by decide)) ckS_RX12_99 cd_X12_in rfl (Nat.le_of_ble_eq_true rfl) ⟨⟨by decide, by decide⟩, by decide, by decide⟩ rfl ?_
  refine aw_ifeq_b 9 40 dX12_isThere_9 (by decide) (fun h9 => ?_) (fun h9 => ?_)
  · refine aw_ic0 40 dX12_isThere_40 ?_
    refine aw_zret 41 dX12_isThere_41 rfl (by first | rfl | exact bi_nar | decide) (Nat.zero_le _) (Nat.zero_le _) ?_
    exact ⟨by rw [bi_f (fun q => h9 ⟨q.1.1, by have := q.1.2; omega⟩)], hW⟩
  · have hj : ir j 16 := ⟨h9.1, by have := h9.2; omega⟩
    obtain ⟨k, hk, rfl⟩ := ir_of hj (by decide)
    have hcl := nI_clamp (n := k) (by omega)
    refine aw_iload2 12 dX12_isThere_12 ?_
    refine aw_ic4 13 dX12_isThere_13 ?_
    refine aw_iremN 14 (k) (4) dX12_isThere_14 rfl rfl (by omega) (by omega) (by omega) ?_
    refine aw_aload0 15 dX12_isThere_15 ?_
    refine rw_ga 16 2 dX12_isThere_16 ckF_RX12_7_12 (by decide) (by decide) hW ?_
    refine aw_iload1 19 dX12_isThere_19 ?_
    refine rw_ld 20 2 (p) dX12_isThere_20 hW rfl (show p < 12 by omega) ?_
    refine aw_topi ((hw.2 p hp).1.2.2) ?_
    refine aw_icmp_geN 21 40 (k % 4) (wd τ p) dX12_isThere_21 (by decide) rfl rfl (by omega) (by omega) (fun h21 => ?_) (fun h21 => ?_)
    · refine aw_ic0 40 dX12_isThere_40 ?_
      refine aw_zret 41 dX12_isThere_41 rfl (by first | rfl | exact bi_nar | decide) (Nat.zero_le _) (Nat.zero_le _) ?_
      refine ⟨?_, hW⟩
      rw [hcl]
      first
        | (rw [bi_t ⟨hj, by assumption, by assumption⟩]; done)
        | (rw [bi_f (fun q => by have := q.2.1; omega)]; done)
        | (rw [bi_f (fun q => by have := q.2.2; omega)]; done)
    · refine aw_iload2 24 dX12_isThere_24 ?_
      refine aw_ic4 25 dX12_isThere_25 ?_
      refine aw_idivN 26 (k) (4) dX12_isThere_26 rfl rfl (by omega) (by omega) (by omega) ?_
      refine aw_aload0 27 dX12_isThere_27 ?_
      refine rw_ga 28 3 dX12_isThere_28 ckF_RX12_13_12 (by decide) (by decide) hW ?_
      refine aw_iload1 31 dX12_isThere_31 ?_
      refine rw_ld 32 3 (p) dX12_isThere_32 hW rfl (show p < 12 by omega) ?_
      refine aw_topi ((hw.2 p hp).2.2.2) ?_
      refine aw_icmp_geN 33 40 (k / 4) (hg τ p) dX12_isThere_33 (by decide) rfl rfl (by omega) (by omega) (fun h33 => ?_) (fun h33 => ?_)
      · refine aw_ic0 40 dX12_isThere_40 ?_
        refine aw_zret 41 dX12_isThere_41 rfl (by first | rfl | exact bi_nar | decide) (Nat.zero_le _) (Nat.zero_le _) ?_
        refine ⟨?_, hW⟩
        rw [hcl]
        first
          | (rw [bi_t ⟨hj, by assumption, by assumption⟩]; done)
          | (rw [bi_f (fun q => by have := q.2.1; omega)]; done)
          | (rw [bi_f (fun q => by have := q.2.2; omega)]; done)
      · refine aw_ic1 36 dX12_isThere_36 ?_
        refine aw_goto 37 41 dX12_isThere_37 (by decide) ?_
        refine aw_zret 41 dX12_isThere_41 rfl (by first | rfl | exact bi_nar | decide) (Nat.zero_le _) (Nat.zero_le _) ?_
        refine ⟨?_, hW⟩
        rw [hcl]
        first
          | (rw [bi_t ⟨hj, by assumption, by assumption⟩]; done)
          | (rw [bi_f (fun q => by have := q.2.1; omega)]; done)
          | (rw [bi_f (fun q => by have := q.2.2; omega)]; done)

theorem c_isThereN {τ : TT} {p k : Nat} (hw : WP τ) (hp : p < nP τ) (hk : k < 16) : RD mX12_isThere rmX12_isThere [.int (nI p), .int (nI k)] τ (some (.int (bi (thr τ p k)))) τ := by
  refine rd_r (c_X12_isThere hw hp) (bi_congr ?_)
  rw [nI_clamp (by omega)]
  exact ⟨fun q => q.2, fun q => ⟨ir_nI (by decide) hk, q⟩⟩

def rmX12_manySquares : Room := { frames := 0, cells := 0, slots := 0, locals := 0 }
set_option maxHeartbeats 4000000 in
set_option maxRecDepth 100000 in
theorem c_X12_manySquares {τ : TT} {p : Nat} (hw : WP τ) (hp : p < nP τ) : RD mX12_manySquares rmX12_manySquares [.int (nI p)] τ (some (.int (nI (wd τ p * hg τ p)))) (τ) := by
  intro M0 hW0
  refine am_of rfl rfl (ls := [some (.ref 25), some (.int (nI p))]) rfl ?_
  suffices HH : ∀ M, RO τ M0 M → AW mX12_manySquares rmX12_manySquares (fun r' M' => r' = (some (.int (nI (wd τ p * hg τ p)))) ∧ RO (τ) M0 M') 0 [some (.ref 25), some (.int (nI p))] [] M 0 0 from HH M0 ⟨hW0, Off.rf M0⟩
  intro M hW
  have hn12 := hw.1.1
  have hwd := (hw.2 p hp).1
  have hhg := (hw.2 p hp).2
  refine aw_aload0 0 dX12_manySquares_0 ?_
  refine rw_ga 1 2 dX12_manySquares_1 ckF_RX12_7_12 (by decide) (by decide) hW ?_
  refine aw_iload1 4 dX12_manySquares_4 ?_
  refine rw_ld 5 2 (p) dX12_manySquares_5 hW rfl (show p < 12 by omega) ?_
  refine aw_topi ((hw.2 p hp).1.2.2) ?_
  refine aw_aload0 6 dX12_manySquares_6 ?_
  refine rw_ga 7 3 dX12_manySquares_7 ckF_RX12_13_12 (by decide) (by decide) hW ?_
  refine aw_iload1 10 dX12_manySquares_10 ?_
  refine rw_ld 11 3 (p) dX12_manySquares_11 hW rfl (show p < 12 by omega) ?_
  refine aw_topi ((hw.2 p hp).2.2.2) ?_
  refine aw_imulN 12 (wd τ p) (hg τ p) dX12_manySquares_12 rfl rfl ?_
  refine aw_iret 13 dX12_manySquares_13 rfl (Nat.zero_le _) (Nat.zero_le _) ?_
  exact ⟨rfl, hW⟩

def rmX12_placeOf : Room := { frames := 0, cells := 0, slots := 0, locals := 0 }
set_option maxHeartbeats 4000000 in
set_option maxRecDepth 100000 in
theorem c_X12_placeOf {τ : TT} {p k : Nat} (hw : WP τ) (hp : p < nP τ) (hk : k < 100) : RD mX12_placeOf rmX12_placeOf [.int (nI p), .int (nI k)] τ (some (.int (nI (plc τ p k)))) (τ) := by
  intro M0 hW0
  refine am_of rfl rfl (ls := [some (.ref 25), some (.int (nI p)), some (.int (nI k))]) rfl ?_
  suffices HH : ∀ M, RO τ M0 M → AW mX12_placeOf rmX12_placeOf (fun r' M' => r' = (some (.int (nI (plc τ p k)))) ∧ RO (τ) M0 M') 0 [some (.ref 25), some (.int (nI p)), some (.int (nI k))] [] M 0 0 from HH M0 ⟨hW0, Off.rf M0⟩
  intro M hW
  have hn12 := hw.1.1
  have hwd := (hw.2 p hp).1
  have hhg := (hw.2 p hp).2
  refine aw_iload2 0 dX12_placeOf_0 ?_
  refine aw_aload0 1 dX12_placeOf_1 ?_
  refine rw_ga 2 2 dX12_placeOf_2 ckF_RX12_7_12 (by decide) (by decide) hW ?_
  refine aw_iload1 5 dX12_placeOf_5 ?_
  refine rw_ld 6 2 (p) dX12_placeOf_6 hW rfl (show p < 12 by omega) ?_
  refine aw_topi ((hw.2 p hp).1.2.2) ?_
  refine aw_iremN 7 (k) (wd τ p) dX12_placeOf_7 rfl rfl (by omega) (by omega) (by omega) ?_
  refine aw_ic4 8 dX12_placeOf_8 ?_
  refine aw_iload2 9 dX12_placeOf_9 ?_
  refine aw_aload0 10 dX12_placeOf_10 ?_
  refine rw_ga 11 2 dX12_placeOf_11 ckF_RX12_7_12 (by decide) (by decide) hW ?_
  refine aw_iload1 14 dX12_placeOf_14 ?_
  refine rw_ld 15 2 (p) dX12_placeOf_15 hW rfl (show p < 12 by omega) ?_
  refine aw_topi ((hw.2 p hp).1.2.2) ?_
  refine aw_idivN 16 (k) (wd τ p) dX12_placeOf_16 rfl rfl (by omega) (by omega) (by omega) ?_
  refine aw_imulN 17 (4) (k / (wd τ p)) dX12_placeOf_17 rfl rfl ?_
  refine aw_iaddN 18 (k % (wd τ p)) (4 * (k / (wd τ p))) dX12_placeOf_18 rfl rfl ?_
  refine aw_iret 19 dX12_placeOf_19 rfl (Nat.zero_le _) (Nat.zero_le _) ?_
  exact ⟨rfl, hW⟩

def rmX12_sumOf : Room := { frames := 1, cells := 0, slots := 0, locals := 22 }
set_option maxHeartbeats 4000000 in
set_option maxRecDepth 100000 in
theorem c_X12_sumOf {τ : TT} {p : Nat} (hw : WP τ) (hp : p < nP τ) : RD mX12_sumOf rmX12_sumOf [.int (nI p)] τ (some (.int (rsum τ p (wd τ p * hg τ p)))) (τ) := by
  intro M0 hW0
  refine am_of rfl rfl (ls := [some (.ref 25), some (.int (nI p)), none, none]) rfl ?_
  suffices HH : ∀ M, RO τ M0 M → AW mX12_sumOf rmX12_sumOf (fun r' M' => r' = (some (.int (rsum τ p (wd τ p * hg τ p)))) ∧ RO (τ) M0 M') 0 [some (.ref 25), some (.int (nI p)), none, none] [] M 0 0 from HH M0 ⟨hW0, Off.rf M0⟩
  intro M hW
  have hn12 := hw.1.1
  have hwd := (hw.2 p hp).1
  have hhg := (hw.2 p hp).2
  have hm16 := wmul hwd.2.1 hhg.2.1
  refine aw_ic0 0 dX12_sumOf_0 ?_
  refine aw_istore2 1 dX12_sumOf_1 rfl ?_
  refine aw_ic0 2 dX12_sumOf_2 ?_
  refine aw_istore3 3 dX12_sumOf_3 rfl ?_
  have LP4 : ∀ (dd : Nat) (k : Nat) (M : Mem), wd τ p * hg τ p - k = dd → k ≤ wd τ p * hg τ p → RO τ M0 M → AW mX12_sumOf rmX12_sumOf (fun r' M' => r' = (some (.int (rsum τ p (wd τ p * hg τ p)))) ∧ RO (τ) M0 M') 4 [some (.ref 25), some (.int (nI p)), some (.int (rsum τ p k)), some (.int (nI k))] [] M 0 0 := by
    intro dd
    induction dd using Nat.strongRecOn with
    | _ dd ih4 =>
      intro k M hdd hk hW
      refine aw_iload3 4 dX12_sumOf_4 ?_
      refine aw_aload0 5 dX12_sumOf_5 ?_
      refine aw_iload1 6 dX12_sumOf_6 ?_
      refine rw_call1 7 dX12_sumOf_7 (c_X12_manySquares hw hp) ckV_RX12_128 cd_X12_manySquares rfl hW rfl (Nat.le_of_ble_eq_true rfl) ⟨⟨by decide, by decide⟩, by decide, by decide⟩ rfl (fun M hW => ?_)
      refine aw_icmp_geN 10 38 (k) (wd τ p * hg τ p) dX12_sumOf_10 (by decide) rfl rfl (by omega) (by omega) (fun h10 => ?_) (fun h10 => ?_)
      · refine aw_iload2 38 dX12_sumOf_38 ?_
        refine aw_iret 39 dX12_sumOf_39 rfl (Nat.zero_le _) (Nat.zero_le _) ?_
        have he : k = wd τ p * hg τ p := by omega
        subst he
        exact ⟨rfl, hW⟩
      · refine aw_iload2 13 dX12_sumOf_13 ?_
        refine aw_aload0 14 dX12_sumOf_14 ?_
        refine rw_ga 15 4 dX12_sumOf_15 ckF_RX12_16_12 (by decide) (by decide) hW ?_
        refine aw_bipush 18 16 dX12_sumOf_18 (by decide) ?_
        refine aw_iload1 20 dX12_sumOf_20 ?_
        refine aw_imulN 21 (16) (p) dX12_sumOf_21 rfl rfl ?_
        refine aw_aload0 22 dX12_sumOf_22 ?_
        refine aw_iload1 23 dX12_sumOf_23 ?_
        refine aw_iload3 24 dX12_sumOf_24 ?_
        refine rw_call1 25 dX12_sumOf_25 (c_X12_placeOf hw hp (k := k) (by omega)) ckV_RX12_131 cd_X12_placeOf rfl hW rfl (Nat.le_of_ble_eq_true rfl) ⟨⟨by decide, by decide⟩, by decide, by decide⟩ rfl (fun M hW => ?_)
        have hpl := plc_lt ⟨hwd.1, hwd.2.1⟩ hhg.2.1 h10
        refine aw_iaddN 28 (16 * p) (plc τ p k) dX12_sumOf_28 rfl rfl ?_
        refine rw_ld 29 4 ((16 * p) + (plc τ p k)) dX12_sumOf_29 hW rfl (show (16 * p) + (plc τ p k) < 192 by omega) ?_
        refine aw_iadd 30 dX12_sumOf_30 ?_
        refine aw_istore2 31 dX12_sumOf_31 rfl ?_
        refine aw_iinc3 32 (nI (k + 1)) dX12_sumOf_32 (nI_1 _) rfl ?_
        refine aw_goto 35 4 dX12_sumOf_35 (by decide) ?_
        exact ih4 _ (by omega) (k + 1) M rfl (by omega) hW
  exact LP4 _ 0 M rfl (Nat.zero_le _) hW

def ov (τ : TT) (i lo hi : Nat) (f : Nat → Int32) : TT := fun a b => if a = i ∧ lo ≤ b ∧ b < hi then f b else τ a b
theorem ov_nil {τ : TT} {i lo : Nat} {f : Nat → Int32} : ov τ i lo lo f = τ := by
  funext a b
  unfold ov
  rw [if_neg (by omega)]
theorem ov_up {τ : TT} {i lo hi : Nat} {f : Nat → Int32} {v : Int32} (h : lo ≤ hi) (hv : v = f hi) : tu (ov τ i lo hi f) i hi v = ov τ i lo (hi + 1) f := by
  funext a b
  unfold tu ov
  by_cases ha : a = i
  · by_cases hb : b = hi
    · subst hb; rw [if_pos ⟨ha, rfl⟩, if_pos ⟨ha, h, by omega⟩, hv]
    · rw [if_neg (fun q => hb q.2)]
      by_cases hc : lo ≤ b ∧ b < hi
      · rw [if_pos ⟨ha, hc⟩, if_pos ⟨ha, hc.1, by omega⟩]
      · rw [if_neg (fun q => hc q.2), if_neg (fun q => hc ⟨q.2.1, by have := q.2.2; omega⟩)]
  · rw [if_neg (fun q => ha q.1), if_neg (fun q => ha q.1), if_neg (fun q => ha q.1)]
theorem ov_dn {τ : TT} {i lo hi : Nat} {f : Nat → Int32} {v : Int32} (h : lo < hi) (hv : v = f lo) : tu (ov τ i (lo + 1) hi f) i lo v = ov τ i lo hi f := by
  funext a b
  unfold tu ov
  by_cases ha : a = i
  · by_cases hb : b = lo
    · subst hb; rw [if_pos ⟨ha, rfl⟩, if_pos ⟨ha, Nat.le_refl _, h⟩, hv]
    · rw [if_neg (fun q => hb q.2)]
      by_cases hc : lo + 1 ≤ b ∧ b < hi
      · rw [if_pos ⟨ha, hc⟩, if_pos ⟨ha, by omega, hc.2⟩]
      · rw [if_neg (fun q => hc q.2), if_neg (fun q => hc ⟨by have := q.2.1; omega, q.2.2⟩)]
  · rw [if_neg (fun q => ha q.1), if_neg (fun q => ha q.1), if_neg (fun q => ha q.1)]
theorem ov_ne {τ : TT} {i lo hi a : Nat} {f : Nat → Int32} (h : a ≠ i) : ov τ i lo hi f a = τ a := by
  funext b
  unfold ov
  rw [if_neg (fun q => h q.1)]
theorem ov_in {τ : TT} {i lo hi b : Nat} {f : Nat → Int32} (h : lo ≤ b ∧ b < hi) : ov τ i lo hi f i b = f b := by
  unfold ov
  rw [if_pos ⟨rfl, h⟩]
theorem ov_out {τ : TT} {i lo hi b : Nat} {f : Nat → Int32} (h : ¬ (lo ≤ b ∧ b < hi)) : ov τ i lo hi f i b = τ i b := by
  unfold ov
  rw [if_neg (fun q => h q.2)]
theorem ov_congr {τ : TT} {i lo hi : Nat} {f g : Nat → Int32} (h : ∀ b, lo ≤ b → b < hi → f b = g b) : ov τ i lo hi f = ov τ i lo hi g := by
  funext a b
  unfold ov
  by_cases hc : a = i ∧ lo ≤ b ∧ b < hi
  · rw [if_pos hc, if_pos hc, h b hc.2.1 hc.2.2]
  · rw [if_neg hc, if_neg hc]
theorem tu_ne {τ : TT} {i k a : Nat} {v : Int32} (h : a ≠ i) : tu τ i k v a = τ a := by
  funext b
  unfold tu
  rw [if_neg (fun q => h q.1)]
theorem tu_at {τ : TT} {i k : Nat} {v : Int32} : tu τ i k v i k = v := by
  unfold tu
  rw [if_pos ⟨rfl, rfl⟩]
theorem tu_nk {τ : TT} {i k b : Nat} {v : Int32} (h : b ≠ k) : tu τ i k v i b = τ i b := by
  unfold tu
  rw [if_neg (fun q => h q.2)]
theorem ro_eq {τ τ' : TT} {M0 M : Mem} (h : RO τ M0 M) (e : τ = τ') : RO τ' M0 M := e ▸ h
/-- pictures' numbers are in three rows of the table -/
theorem WP.of {τ τ' : TT} (h : WP τ) (h1 : τ' 1 = τ 1) (h2 : τ' 2 = τ 2) (h3 : τ' 3 = τ 3) : WP τ' := by
  unfold WP nP wd hg at *
  rw [h1, h2, h3]
  exact h
def leaf (τ : TT) (p j : Nat) : Int32 := if thr τ p j then τ 4 (16 * p + j) + 1 else 0
def tn (lf : Nat → Int32) : Nat → Nat → Int32
  | 0, k => lf (k - 16)
  | d + 1, k => if 16 ≤ k then lf (k - 16) else abv (tn lf d (2 * k)) (tn lf d (2 * k + 1))
def TN (lf : Nat → Int32) (k : Nat) : Int32 := tn lf 4 k
theorem TN_lo (lf : Nat → Int32) {k : Nat} (h1 : 1 ≤ k) (h2 : k < 16) : TN lf k = abv (TN lf (2 * k)) (TN lf (2 * k + 1)) := by
  rcases (show k = 1 ∨ k = 2 ∨ k = 3 ∨ k = 4 ∨ k = 5 ∨ k = 6 ∨ k = 7 ∨ k = 8 ∨ k = 9 ∨ k = 10 ∨ k = 11 ∨ k = 12 ∨ k = 13 ∨ k = 14 ∨ k = 15 by omega) with rfl | rfl | rfl | rfl | rfl | rfl | rfl | rfl | rfl | rfl | rfl | rfl | rfl | rfl | rfl <;> rfl
theorem TN_hi (lf : Nat → Int32) {k : Nat} (h : 16 ≤ k) : TN lf k = lf (k - 16) := by
  unfold TN tn
  rw [if_pos h]
def lay (τ : TT) (p : Nat) : TT := ov τ 5 1 32 (TN (leaf τ p))

def rmX12_layTree : Room := { frames := 2, cells := 0, slots := 0, locals := 47 }
set_option maxHeartbeats 4000000 in
set_option maxRecDepth 100000 in
theorem c_X12_layTree {τ : TT} {p : Nat} (hw : WP τ) (hp : p < nP τ) : RD mX12_layTree rmX12_layTree [.int (nI p)] τ (none) (lay τ p) := by
  intro M0 hW0
  refine am_of rfl rfl (ls := [some (.ref 25), some (.int (nI p)), none]) rfl ?_
  suffices HH : ∀ M, RO τ M0 M → AW mX12_layTree rmX12_layTree (fun r' M' => r' = (none) ∧ RO (lay τ p) M0 M') 0 [some (.ref 25), some (.int (nI p)), none] [] M 0 0 from HH M0 ⟨hW0, Off.rf M0⟩
  intro M hW
  have hn12 := hw.1.1
  have hwd := (hw.2 p hp).1
  have hhg := (hw.2 p hp).2
  refine aw_ic0 0 dX12_layTree_0 ?_
  refine aw_istore2 1 dX12_layTree_1 rfl ?_
  have LP2 : ∀ (dd : Nat) (k : Nat) (M : Mem), 16 - k = dd → k ≤ 16 → RO (ov τ 5 16 (16 + k) (fun b => leaf τ p (b - 16))) M0 M → AW mX12_layTree rmX12_layTree (fun r' M' => r' = (none) ∧ RO (lay τ p) M0 M') 2 [some (.ref 25), some (.int (nI p)), some (.int (nI k))] [] M 0 0 := by
    intro dd
    induction dd using Nat.strongRecOn with
    | _ dd ih2 =>
      intro k M hdd hk hW
      have hw1 : WP (ov τ 5 16 (16 + k) (fun b => leaf τ p (b - 16))) := hw.of (ov_ne (by decide)) (ov_ne (by decide)) (ov_ne (by decide))
      have hp1 : p < nP (ov τ 5 16 (16 + k) (fun b => leaf τ p (b - 16))) := hp
      refine aw_iload2 2 dX12_layTree_2 ?_
      refine aw_bipush 3 16 dX12_layTree_3 (by decide) ?_
      refine aw_icmp_geN 5 49 (k) (16) dX12_layTree_5 (by decide) rfl rfl (by omega) (by omega) (fun h5 => ?_) (fun h5 => ?_)
      · have he : k = 16 := by omega
        subst he
        replace hW := ro_eq hW (show ov τ 5 16 (16 + 16) (fun b => leaf τ p (b - 16)) = ov τ 5 (15 + 1) 32 (TN (leaf τ p)) from ov_congr (fun b h1 h2 => (TN_hi _ h1).symm))
        refine aw_bipush 49 15 dX12_layTree_49 (by decide) ?_
        refine aw_istore2 51 dX12_layTree_51 rfl ?_
        have LP52 : ∀ (dd : Nat) (k : Nat) (M : Mem), k = dd → k ≤ 15 → RO (ov τ 5 (k + 1) 32 (TN (leaf τ p))) M0 M → AW mX12_layTree rmX12_layTree (fun r' M' => r' = (none) ∧ RO (lay τ p) M0 M') 52 [some (.ref 25), some (.int (nI p)), some (.int (nI k))] [] M 0 0 := by
          intro dd
          induction dd using Nat.strongRecOn with
          | _ dd ih52 =>
            intro k M hdd hk hW
            refine aw_iload2 52 dX12_layTree_52 ?_
            refine aw_if_leN 53 89 (k) dX12_layTree_53 (by decide) rfl (by omega) (fun h53 => ?_) (fun h53 => ?_)
            · refine aw_vret 89 dX12_layTree_89 rfl (Nat.zero_le _) (Nat.zero_le _) ?_
              have he : k = 0 := by omega
              subst he
              exact ⟨rfl, hW⟩
            · refine aw_aload0 56 dX12_layTree_56 ?_
              refine rw_ga 57 5 dX12_layTree_57 ckF_RX12_19_12 (by decide) (by decide) hW ?_
              refine aw_iload2 60 dX12_layTree_60 ?_
              refine aw_aload0 61 dX12_layTree_61 ?_
              refine rw_ga 62 5 dX12_layTree_62 ckF_RX12_19_12 (by decide) (by decide) hW ?_
              refine aw_ic2 65 dX12_layTree_65 ?_
              refine aw_iload2 66 dX12_layTree_66 ?_
              refine aw_imulN 67 (2) (k) dX12_layTree_67 rfl rfl ?_
              refine rw_ld 68 5 (2 * k) dX12_layTree_68 hW rfl (show 2 * k < 32 by omega) ?_
              rw [ov_in (by omega)]
              refine aw_aload0 69 dX12_layTree_69 ?_
              refine rw_ga 70 5 dX12_layTree_70 ckF_RX12_19_12 (by decide) (by decide) hW ?_
              refine aw_ic2 73 dX12_layTree_73 ?_
              refine aw_iload2 74 dX12_layTree_74 ?_
              refine aw_imulN 75 (2) (k) dX12_layTree_75 rfl rfl ?_
              refine aw_ic1 76 dX12_layTree_76 ?_
              refine aw_iaddN 77 (2 * k) (1) dX12_layTree_77 rfl rfl ?_
              refine rw_ld 78 5 ((2 * k) + 1) dX12_layTree_78 hW rfl (show (2 * k) + 1 < 32 by omega) ?_
              rw [ov_in (by omega)]
              refine sd_call1 79 dX12_layTree_79 c_X12_above ckS_RX12_139 cd_X12_above rfl (Nat.le_of_ble_eq_true rfl) ⟨⟨by decide, by decide⟩, by decide, by decide⟩ rfl ?_
              refine rw_st 82 5 (k) dX12_layTree_82 hW rfl (show k < 32 by omega) (fun M hW => ?_)
              replace hW := ro_eq hW (ov_dn (by omega) (TN_lo _ (by omega) (by omega)).symm)
              replace hW := ro_eq hW (show _ = ov τ 5 (k - 1 + 1) 32 (TN (leaf τ p)) by rw [show k - 1 + 1 = k by omega])
              refine aw_iinc2 83 (nI (k - 1)) dX12_layTree_83 (sb_m1 (by omega)) rfl ?_
              refine aw_goto 86 52 dX12_layTree_86 (by decide) ?_
              exact ih52 _ (by omega) (k - 1) M rfl (by omega) hW
        exact LP52 _ 15 M rfl (by omega) hW
      · refine aw_aload0 8 dX12_layTree_8 ?_
        refine rw_ga 9 5 dX12_layTree_9 ckF_RX12_19_12 (by decide) (by decide) hW ?_
        refine aw_bipush 12 16 dX12_layTree_12 (by decide) ?_
        refine aw_iload2 14 dX12_layTree_14 ?_
        refine aw_iaddN 15 (16) (k) dX12_layTree_15 rfl rfl ?_
        refine aw_aload0 16 dX12_layTree_16 ?_
        refine aw_iload1 17 dX12_layTree_17 ?_
        refine aw_iload2 18 dX12_layTree_18 ?_
        refine rw_call1 19 dX12_layTree_19 (c_isThereN hw1 hp1 (k := k) (by omega)) ckV_RX12_135 cd_X12_isThere rfl hW rfl (Nat.le_of_ble_eq_true rfl) ⟨⟨by decide, by decide⟩, by decide, by decide⟩ rfl (fun M hW => ?_)
        refine aw_ifeq_b 22 41 dX12_layTree_22 (by decide) (fun h22 => ?_) (fun h22 => ?_)
        · refine aw_ic0 41 dX12_layTree_41 ?_
          refine rw_st 42 5 (16 + k) dX12_layTree_42 hW rfl (show 16 + k < 32 by omega) (fun M hW => ?_)
          replace hW := ro_eq hW (ov_up (f := (fun b => leaf τ p (b - 16))) (by omega) (show _ = leaf τ p (16 + k - 16) by
            rw [show 16 + k - 16 = k by omega]
            unfold leaf
            first
              | rw [if_pos (show thr τ p k from h22), ov_ne (by decide)]
              | rw [if_neg (show ¬ thr τ p k from h22)]))
          refine aw_iinc2 43 (nI (k + 1)) dX12_layTree_43 (nI_1 _) rfl ?_
          refine aw_goto 46 2 dX12_layTree_46 (by decide) ?_
          exact ih2 _ (by omega) (k + 1) M rfl (by omega) hW
        · refine aw_aload0 25 dX12_layTree_25 ?_
          refine rw_ga 26 4 dX12_layTree_26 ckF_RX12_16_12 (by decide) (by decide) hW ?_
          refine aw_bipush 29 16 dX12_layTree_29 (by decide) ?_
          refine aw_iload1 31 dX12_layTree_31 ?_
          refine aw_imulN 32 (16) (p) dX12_layTree_32 rfl rfl ?_
          refine aw_iload2 33 dX12_layTree_33 ?_
          refine aw_iaddN 34 (16 * p) (k) dX12_layTree_34 rfl rfl ?_
          refine rw_ld 35 4 ((16 * p) + k) dX12_layTree_35 hW rfl (show (16 * p) + k < 192 by omega) ?_
          refine aw_ic1 36 dX12_layTree_36 ?_
          refine aw_iadd 37 dX12_layTree_37 ?_
          refine aw_goto 38 42 dX12_layTree_38 (by decide) ?_
          refine rw_st 42 5 (16 + k) dX12_layTree_42 hW rfl (show 16 + k < 32 by omega) (fun M hW => ?_)
          replace hW := ro_eq hW (ov_up (f := (fun b => leaf τ p (b - 16))) (by omega) (show _ = leaf τ p (16 + k - 16) by
            rw [show 16 + k - 16 = k by omega]
            unfold leaf
            first
              | rw [if_pos (show thr τ p k from h22), ov_ne (by decide)]
              | rw [if_neg (show ¬ thr τ p k from h22)]))
          refine aw_iinc2 43 (nI (k + 1)) dX12_layTree_43 (nI_1 _) rfl ?_
          refine aw_goto 46 2 dX12_layTree_46 (by decide) ?_
          exact ih2 _ (by omega) (k + 1) M rfl (by omega) hW
  exact LP2 _ 0 M rfl (by omega) (ro_eq hW ov_nil.symm)

def rmX12_rootOf : Room := { frames := 3, cells := 0, slots := 0, locals := 69 }
set_option maxHeartbeats 4000000 in
set_option maxRecDepth 100000 in
theorem c_X12_rootOf {τ : TT} {p : Nat} (hw : WP τ) (hp : p < nP τ) : RD mX12_rootOf rmX12_rootOf [.int (nI p)] τ (some (.int (TN (leaf τ p) 1))) (lay τ p) := by
  intro M0 hW0
  refine am_of rfl rfl (ls := [some (.ref 25), some (.int (nI p))]) rfl ?_
  suffices HH : ∀ M, RO τ M0 M → AW mX12_rootOf rmX12_rootOf (fun r' M' => r' = (some (.int (TN (leaf τ p) 1))) ∧ RO (lay τ p) M0 M') 0 [some (.ref 25), some (.int (nI p))] [] M 0 0 from HH M0 ⟨hW0, Off.rf M0⟩
  intro M hW
  have hn12 := hw.1.1
  have hwd := (hw.2 p hp).1
  have hhg := (hw.2 p hp).2
  refine aw_aload0 0 dX12_rootOf_0 ?_
  refine aw_iload1 1 dX12_rootOf_1 ?_
  refine rw_call0 2 dX12_rootOf_2 (c_X12_layTree hw hp) ckV_RX12_142 cd_X12_layTree rfl hW rfl (Nat.le_of_ble_eq_true rfl) ⟨⟨by decide, by decide⟩, by decide, by decide⟩ rfl (fun M hW => ?_)
  refine aw_aload0 5 dX12_rootOf_5 ?_
  refine rw_ga 6 5 dX12_rootOf_6 ckF_RX12_19_12 (by decide) (by decide) hW ?_
  refine aw_ic1 9 dX12_rootOf_9 ?_
  refine rw_ld 10 5 (1) dX12_rootOf_10 hW rfl (show 1 < 32 by omega) ?_
  rw [show lay τ p 5 1 = TN (leaf τ p) 1 from ov_in (by decide)]
  refine aw_iret 11 dX12_rootOf_11 rfl (Nat.zero_le _) (Nat.zero_le _) ?_
  exact ⟨rfl, hW⟩

