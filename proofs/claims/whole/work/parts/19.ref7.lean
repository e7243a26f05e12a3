/-! the reference: picture, proves, best (rows laid by gen/ref7.py) -/
theorem bar_cs (τ : TT) (k : Nat) (lane i : Int32) (c : Int64) : bar τ k lane i c = 0 ∨ bar τ k lane i c = 1 ∨ bar τ k lane i c = 2 ∨ bar τ k lane i c = 3 ∨ bar τ k lane i c = 4 := by
  unfold bar
  by_cases h1 : 0 ≤ τ 28 k ∧ ¬ τ 29 k = lane
  · rw [if_pos h1]; simp
  · rw [if_neg h1]
    by_cases h2 : τ 28 k < 0
    · rw [if_pos h2]; simp
    · rw [if_neg h2]
      by_cases h3 : c < 0
      · rw [if_pos h3]; simp
      · rw [if_neg h3]
        by_cases h4 : i < 0 ∨ c < 0 ∨ (τ 28 k).toInt64 < i.toInt64 + c
        · rw [if_pos h4]; simp
        · rw [if_neg h4]; simp
theorem bar_neg {τ : TT} {k : Nat} {lane i : Int32} {c : Int64} (h : ¬ bar τ k lane i c = 0) : ¬ 0 ≤ -10 - bar τ k lane i c := by
  rcases bar_cs τ k lane i c with e | e | e | e | e
  · exact absurd e h
  all_goals (rw [e]; decide)
theorem c_bar0 {τ : TT} {k : Nat} {lane i : Int32} {c : Int64} (hk : k < 4) (hb : bar τ k lane i c = 0) : RD mX12_barred rmX12_barred [.int (nI k), .int lane, .int i, .long c] τ (some (.int 0)) τ :=
  rd_rt (c_X12_barred hk) (by rw [hb]; rfl) (by rw [hb]; rfl)
theorem c_barN {τ : TT} {k : Nat} {lane i : Int32} {c : Int64} (hk : k < 4) (hb : ¬ bar τ k lane i c = 0) : RD mX12_barred rmX12_barred [.int (nI k), .int lane, .int i, .long c] τ (some (.int (-10 - bar τ k lane i c))) (tu τ 0 0 (bar τ k lane i c)) :=
  rd_rt (c_X12_barred hk) (by unfold barR; rw [if_neg hb]) (by unfold barT; rw [if_neg hb])
theorem bar_0 {τ : TT} {k i n : Nat} {lane : Int32} (hs : WS τ) (hk : k < 4) (h0 : ¬ τ 28 k < 0) (hl : τ 29 k = lane) (hi : i + n ≤ ssz τ k) : bar τ k lane (nI i) (nI n).toInt64 = 0 := by
  have hsk := hs.ok hk h0
  have hb := bey_no hsk.1 hi
  rw [← hsk.2] at hb
  unfold bar
  rw [if_neg (nr (nn hl)), if_neg h0, if_neg (fun q => hb (Or.inr (Or.inl q))), if_neg hb]
theorem l_nI {n : Nat} (h : n < 2 ^ 31) : (nI n).toInt64 = lN n := nI_l h
/-- what a bar that lets through says -/
theorem bar_ok {τ : TT} {k : Nat} {lane i n : Int32} (hs : WS τ) (hk : k < 4) (hb : bar τ k lane i n.toInt64 = 0) : ∃ i' n' : Nat, i = nI i' ∧ n = nI n' ∧ ¬ τ 28 k < 0 ∧ τ 29 k = lane ∧ i' + n' ≤ ssz τ k := by
  unfold bar at hb
  by_cases h1 : 0 ≤ τ 28 k ∧ ¬ τ 29 k = lane
  · rw [if_pos h1] at hb; exact absurd hb (by decide)
  · rw [if_neg h1] at hb
    by_cases h2 : τ 28 k < 0
    · rw [if_pos h2] at hb; exact absurd hb (by decide)
    · rw [if_neg h2] at hb
      by_cases h3 : n.toInt64 < 0
      · rw [if_pos h3] at hb; exact absurd hb (by decide)
      · rw [if_neg h3] at hb
        by_cases h4 : i < 0 ∨ n.toInt64 < 0 ∨ (τ 28 k).toInt64 < i.toInt64 + n.toInt64
        · rw [if_pos h4] at hb; exact absurd hb (by decide)
        · have hl : τ 29 k = lane := Decidable.byContradiction (fun q => h1 ⟨Int32.not_lt.mp h2, q⟩)
          have hsk := hs.ok hk h2
          obtain ⟨i', hi', rfl⟩ := nI_of (x := i) (fun q => h4 (Or.inl q))
          have hn0 : ¬ n < 0 := fun q => h3 (by
            rw [Int64.lt_iff_toInt_lt, Int32.toInt_toInt64]
            have := Int32.lt_iff_toInt_lt.mp q
            simpa using this)
          obtain ⟨n', hn', rfl⟩ := nI_of hn0
          refine ⟨i', n', rfl, rfl, h2, hl, ?_⟩
          have h5 : ¬ (τ 28 k).toInt64 < (nI i').toInt64 + (nI n').toInt64 := fun q => h4 (Or.inr (Or.inr q))
          rw [hsk.2, nI_l (by omega), nI_l hi', nI_l hn', lN_add, pk_lLT (by omega) (by omega)] at h5
          omega

def rmX12_picture : Room := { frames := 2, cells := 0, slots := 0, locals := 48 }
set_option maxHeartbeats 4000000 in
set_option maxRecDepth 100000 in
theorem n_X12_picture {τ : TT} {w h v l i : Int32} (hno : ¬ irg v 0 3) : RD mX12_picture rmX12_picture [.int w, .int h, .int v, .int l, .int i] τ (some (.int (-1))) (tu τ 0 0 0) := by
  intro M0 hW0
  refine am_of rfl rfl (ls := [some (.ref 25), some (.int w), some (.int h), some (.int v), some (.int l), some (.int i), none, none, none]) rfl ?_
  suffices HH : ∀ M, RO τ M0 M → AW mX12_picture rmX12_picture (fun r' M' => r' = (some (.int (-1))) ∧ RO (tu τ 0 0 0) M0 M') 0 [some (.ref 25), some (.int w), some (.int h), some (.int v), some (.int l), some (.int i), none, none, none] [] M 0 0 from HH M0 ⟨hW0, Off.rf M0⟩
  intro M hW
  refine aw_iload3 0 dX12_picture_0 ?_
  refine sd_call1 1 dX12_picture_1 (c_X12_noSheet) ckS_RX12_110 cd_X12_noSheet rfl (Nat.le_of_ble_eq_true rfl) ⟨⟨by decide, by decide⟩, by decide, by decide⟩ rfl ?_
  refine aw_ifeq_b 4 13 dX12_picture_4 (by decide) (fun h4 => ?_) (fun h4 => ?_)
  · exact absurd hno h4
  · refine aw_aload0 7 dX12_picture_7 ?_
    refine aw_icm1 8 dX12_picture_8 ?_
    refine rw_call1 9 dX12_picture_9 c_X12_refused ckV_RX12_114 cd_X12_refused rfl hW rfl (Nat.le_of_ble_eq_true rfl) ⟨⟨by decide, by decide⟩, by decide, by decide⟩ rfl (fun M hW => ?_)
    refine aw_iret 12 dX12_picture_12 rfl (Nat.zero_le _) (Nat.zero_le _) ?_
    exact ⟨rfl, hW⟩

set_option maxHeartbeats 4000000 in
set_option maxRecDepth 100000 in
theorem n2_X12_picture {τ : TT} {k : Nat} {w h l i : Int32} (hk : k < 4) (hno : ¬ irg w 1 4 ∨ ¬ irg h 1 4 ∨ ¬ irg l 0 2) : RD mX12_picture rmX12_picture [.int w, .int h, .int (nI k), .int l, .int i] τ (some (.int (-2))) (tu τ 0 0 0) := by
  intro M0 hW0
  refine am_of rfl rfl (ls := [some (.ref 25), some (.int w), some (.int h), some (.int (nI k)), some (.int l), some (.int i), none, none, none]) rfl ?_
  suffices HH : ∀ M, RO τ M0 M → AW mX12_picture rmX12_picture (fun r' M' => r' = (some (.int (-2))) ∧ RO (tu τ 0 0 0) M0 M') 0 [some (.ref 25), some (.int w), some (.int h), some (.int (nI k)), some (.int l), some (.int i), none, none, none] [] M 0 0 from HH M0 ⟨hW0, Off.rf M0⟩
  intro M hW
  have hik : irg (nI k) 0 3 := irg_nI (b := 3) (by decide) (by omega)
  refine aw_iload3 0 dX12_picture_0 ?_
  refine sd_call1 1 dX12_picture_1 (c_X12_noSheet) ckS_RX12_110 cd_X12_noSheet rfl (Nat.le_of_ble_eq_true rfl) ⟨⟨by decide, by decide⟩, by decide, by decide⟩ rfl ?_
  refine aw_ifeq_b 4 13 dX12_picture_4 (by decide) (fun h4 => ?_) (fun h4 => ?_)
  · refine aw_iload1 13 dX12_picture_13 ?_
    refine aw_i2l 14 dX12_picture_14 ?_
    refine aw_lc1 15 dX12_picture_15 ?_
    refine aw_ldc2 16 (4) dX12_picture_16 ckL_RX12_117 ?_
    refine sd_call1 19 dX12_picture_19 (c_in2 (1) (4) (by decide) (by decide)) ckS_RX12_99 cd_X12_in rfl (Nat.le_of_ble_eq_true rfl) ⟨⟨by decide, by decide⟩, by decide, by decide⟩ rfl ?_
    refine aw_ifeq_b 22 45 dX12_picture_22 (by decide) (fun h22 => ?_) (fun h22 => ?_)
    · refine aw_aload0 45 dX12_picture_45 ?_
      refine aw_bipush 46 (-2) dX12_picture_46 (by decide) ?_
      refine rw_call1 48 dX12_picture_48 c_X12_refused ckV_RX12_114 cd_X12_refused rfl hW rfl (Nat.le_of_ble_eq_true rfl) ⟨⟨by decide, by decide⟩, by decide, by decide⟩ rfl (fun M hW => ?_)
      refine aw_iret 51 dX12_picture_51 rfl (Nat.zero_le _) (Nat.zero_le _) ?_
      exact ⟨rfl, hW⟩
    · refine aw_iload2 25 dX12_picture_25 ?_
      refine aw_i2l 26 dX12_picture_26 ?_
      refine aw_lc1 27 dX12_picture_27 ?_
      refine aw_ldc2 28 (4) dX12_picture_28 ckL_RX12_117 ?_
      refine sd_call1 31 dX12_picture_31 (c_in2 (1) (4) (by decide) (by decide)) ckS_RX12_99 cd_X12_in rfl (Nat.le_of_ble_eq_true rfl) ⟨⟨by decide, by decide⟩, by decide, by decide⟩ rfl ?_
      refine aw_ifeq_b 34 45 dX12_picture_34 (by decide) (fun h34 => ?_) (fun h34 => ?_)
      · refine aw_aload0 45 dX12_picture_45 ?_
        refine aw_bipush 46 (-2) dX12_picture_46 (by decide) ?_
        refine rw_call1 48 dX12_picture_48 c_X12_refused ckV_RX12_114 cd_X12_refused rfl hW rfl (Nat.le_of_ble_eq_true rfl) ⟨⟨by decide, by decide⟩, by decide, by decide⟩ rfl (fun M hW => ?_)
        refine aw_iret 51 dX12_picture_51 rfl (Nat.zero_le _) (Nat.zero_le _) ?_
        exact ⟨rfl, hW⟩
      · refine aw_iload4 37 dX12_picture_37 ?_
        refine sd_call1 39 dX12_picture_39 (c_X12_isLane) ckS_RX12_119 cd_X12_isLane rfl (Nat.le_of_ble_eq_true rfl) ⟨⟨by decide, by decide⟩, by decide, by decide⟩ rfl ?_
        refine aw_ifne_b 42 52 dX12_picture_42 (by decide) (fun h42 => ?_) (fun h42 => ?_)
        · exact absurd hno (fun q => q.elim (fun z => z h22) (fun q => q.elim (fun z => z h34) (fun z => z h42)))
        · refine aw_aload0 45 dX12_picture_45 ?_
          refine aw_bipush 46 (-2) dX12_picture_46 (by decide) ?_
          refine rw_call1 48 dX12_picture_48 c_X12_refused ckV_RX12_114 cd_X12_refused rfl hW rfl (Nat.le_of_ble_eq_true rfl) ⟨⟨by decide, by decide⟩, by decide, by decide⟩ rfl (fun M hW => ?_)
          refine aw_iret 51 dX12_picture_51 rfl (Nat.zero_le _) (Nat.zero_le _) ?_
          exact ⟨rfl, hW⟩
  · exact absurd hik h4

set_option maxHeartbeats 4000000 in
set_option maxRecDepth 100000 in
theorem n3_X12_picture {τ : TT} {w h k : Nat} {l i : Int32} (hw1 : 1 ≤ w ∧ w ≤ 4) (hh1 : 1 ≤ h ∧ h ≤ 4) (hk : k < 4) (hl : irg l 0 2) (hb : ¬ bar τ k l i (nI (w * h)).toInt64 = 0) : RD mX12_picture rmX12_picture [.int (nI w), .int (nI h), .int (nI k), .int l, .int i] τ (some (.int (-10 - bar τ k l i (nI (w * h)).toInt64))) (tu τ 0 0 (bar τ k l i (nI (w * h)).toInt64)) := by
  intro M0 hW0
  refine am_of rfl rfl (ls := [some (.ref 25), some (.int (nI w)), some (.int (nI h)), some (.int (nI k)), some (.int l), some (.int i), none, none, none]) rfl ?_
  suffices HH : ∀ M, RO τ M0 M → AW mX12_picture rmX12_picture (fun r' M' => r' = (some (.int (-10 - bar τ k l i (nI (w * h)).toInt64))) ∧ RO (tu τ 0 0 (bar τ k l i (nI (w * h)).toInt64)) M0 M') 0 [some (.ref 25), some (.int (nI w)), some (.int (nI h)), some (.int (nI k)), some (.int l), some (.int i), none, none, none] [] M 0 0 from HH M0 ⟨hW0, Off.rf M0⟩
  intro M hW
  have hik : irg (nI k) 0 3 := irg_nI (b := 3) (by decide) (by omega)
  have hm16 := wmul hw1.2 hh1.2
  have hiw : irg (nI w) 1 4 := by unfold irg; rw [nI_toInt (by omega)]; omega
  have hih : irg (nI h) 1 4 := by unfold irg; rw [nI_toInt (by omega)]; omega
  refine aw_iload3 0 dX12_picture_0 ?_
  refine sd_call1 1 dX12_picture_1 (c_X12_noSheet) ckS_RX12_110 cd_X12_noSheet rfl (Nat.le_of_ble_eq_true rfl) ⟨⟨by decide, by decide⟩, by decide, by decide⟩ rfl ?_
  refine aw_ifeq_b 4 13 dX12_picture_4 (by decide) (fun h4 => ?_) (fun h4 => ?_)
  · refine aw_iload1 13 dX12_picture_13 ?_
    refine aw_i2l 14 dX12_picture_14 ?_
    refine aw_lc1 15 dX12_picture_15 ?_
    refine aw_ldc2 16 (4) dX12_picture_16 ckL_RX12_117 ?_
    refine sd_call1 19 dX12_picture_19 (c_in2 (1) (4) (by decide) (by decide)) ckS_RX12_99 cd_X12_in rfl (Nat.le_of_ble_eq_true rfl) ⟨⟨by decide, by decide⟩, by decide, by decide⟩ rfl ?_
    refine aw_ifeq_b 22 45 dX12_picture_22 (by decide) (fun h22 => ?_) (fun h22 => ?_)
    · first | exact absurd hiw h22 | exact absurd hih h34 | exact absurd hl h42
    · refine aw_iload2 25 dX12_picture_25 ?_
      refine aw_i2l 26 dX12_picture_26 ?_
      refine aw_lc1 27 dX12_picture_27 ?_
      refine aw_ldc2 28 (4) dX12_picture_28 ckL_RX12_117 ?_
      refine sd_call1 31 dX12_picture_31 (c_in2 (1) (4) (by decide) (by decide)) ckS_RX12_99 cd_X12_in rfl (Nat.le_of_ble_eq_true rfl) ⟨⟨by decide, by decide⟩, by decide, by decide⟩ rfl ?_
      refine aw_ifeq_b 34 45 dX12_picture_34 (by decide) (fun h34 => ?_) (fun h34 => ?_)
      · first | exact absurd hiw h22 | exact absurd hih h34 | exact absurd hl h42
      · refine aw_iload4 37 dX12_picture_37 ?_
        refine sd_call1 39 dX12_picture_39 (c_X12_isLane) ckS_RX12_119 cd_X12_isLane rfl (Nat.le_of_ble_eq_true rfl) ⟨⟨by decide, by decide⟩, by decide, by decide⟩ rfl ?_
        refine aw_ifne_b 42 52 dX12_picture_42 (by decide) (fun h42 => ?_) (fun h42 => ?_)
        · refine aw_aload0 52 dX12_picture_52 ?_
          refine aw_iload3 53 dX12_picture_53 ?_
          refine aw_iload4 54 dX12_picture_54 ?_
          refine aw_iload5 56 dX12_picture_56 ?_
          refine aw_iload1 58 dX12_picture_58 ?_
          refine aw_iload2 59 dX12_picture_59 ?_
          refine aw_imulN 60 (w) (h) dX12_picture_60 rfl rfl ?_
          refine aw_i2l 61 dX12_picture_61 ?_
          refine rw_call1 62 dX12_picture_62 (c_barN hk hb) ckV_RX12_122 cd_X12_barred rfl hW rfl (Nat.le_of_ble_eq_true rfl) ⟨⟨by decide, by decide⟩, by decide, by decide⟩ rfl (fun M hW => ?_)
          refine aw_istore6 65 dX12_picture_65 rfl ?_
          refine aw_iload6 67 dX12_picture_67 ?_
          refine aw_if_ge 69 75 dX12_picture_69 (by decide) (fun h69 => ?_) (fun h69 => ?_)
          · exact absurd h69 (bar_neg hb)
          · refine aw_iload6 72 dX12_picture_72 ?_
            refine aw_iret 74 dX12_picture_74 rfl (Nat.zero_le _) (Nat.zero_le _) ?_
            exact ⟨rfl, hW⟩
        · first | exact absurd hiw h22 | exact absurd hih h34 | exact absurd hl h42
  · exact absurd hik h4

set_option maxHeartbeats 4000000 in
set_option maxRecDepth 100000 in
theorem n4_X12_picture {τ : TT} {w h k i : Nat} {l : Int32} (hw1 : 1 ≤ w ∧ w ≤ 4) (hh1 : 1 ≤ h ∧ h ≤ 4) (hk : k < 4) (hl : irg l 0 2) (hs : WS τ) (h0 : ¬ τ 28 k < 0) (hll : τ 29 k = l) (hi : i + w * h ≤ ssz τ k) (hbad : ∃ y, y < w * h ∧ ¬ irg (τ 30 (60 * k + i + y)) 0 99) : RD mX12_picture rmX12_picture [.int (nI w), .int (nI h), .int (nI k), .int l, .int (nI i)] τ (some (.int (-2))) (tu τ 0 0 0) := by
  intro M0 hW0
  refine am_of rfl rfl (ls := [some (.ref 25), some (.int (nI w)), some (.int (nI h)), some (.int (nI k)), some (.int l), some (.int (nI i)), none, none, none]) rfl ?_
  suffices HH : ∀ M, RO τ M0 M → AW mX12_picture rmX12_picture (fun r' M' => r' = (some (.int (-2))) ∧ RO (tu τ 0 0 0) M0 M') 0 [some (.ref 25), some (.int (nI w)), some (.int (nI h)), some (.int (nI k)), some (.int l), some (.int (nI i)), none, none, none] [] M 0 0 from HH M0 ⟨hW0, Off.rf M0⟩
  intro M hW
  have hik : irg (nI k) 0 3 := irg_nI (b := 3) (by decide) (by omega)
  have hm16 := wmul hw1.2 hh1.2
  have hiw : irg (nI w) 1 4 := by unfold irg; rw [nI_toInt (by omega)]; omega
  have hih : irg (nI h) 1 4 := by unfold irg; rw [nI_toInt (by omega)]; omega
  have hsk := hs.ok hk h0
  have hb := bar_0 hs hk h0 hll hi
  refine aw_iload3 0 dX12_picture_0 ?_
  refine sd_call1 1 dX12_picture_1 (c_X12_noSheet) ckS_RX12_110 cd_X12_noSheet rfl (Nat.le_of_ble_eq_true rfl) ⟨⟨by decide, by decide⟩, by decide, by decide⟩ rfl ?_
  refine aw_ifeq_b 4 13 dX12_picture_4 (by decide) (fun h4 => ?_) (fun h4 => ?_)
  · refine aw_iload1 13 dX12_picture_13 ?_
    refine aw_i2l 14 dX12_picture_14 ?_
    refine aw_lc1 15 dX12_picture_15 ?_
    refine aw_ldc2 16 (4) dX12_picture_16 ckL_RX12_117 ?_
    refine sd_call1 19 dX12_picture_19 (c_in2 (1) (4) (by decide) (by decide)) ckS_RX12_99 cd_X12_in rfl (Nat.le_of_ble_eq_true rfl) ⟨⟨by decide, by decide⟩, by decide, by decide⟩ rfl ?_
    refine aw_ifeq_b 22 45 dX12_picture_22 (by decide) (fun h22 => ?_) (fun h22 => ?_)
    · first | exact absurd hiw h22 | exact absurd hih h34 | exact absurd hl h42
    · refine aw_iload2 25 dX12_picture_25 ?_
      refine aw_i2l 26 dX12_picture_26 ?_
      refine aw_lc1 27 dX12_picture_27 ?_
      refine aw_ldc2 28 (4) dX12_picture_28 ckL_RX12_117 ?_
      refine sd_call1 31 dX12_picture_31 (c_in2 (1) (4) (by decide) (by decide)) ckS_RX12_99 cd_X12_in rfl (Nat.le_of_ble_eq_true rfl) ⟨⟨by decide, by decide⟩, by decide, by decide⟩ rfl ?_
      refine aw_ifeq_b 34 45 dX12_picture_34 (by decide) (fun h34 => ?_) (fun h34 => ?_)
      · first | exact absurd hiw h22 | exact absurd hih h34 | exact absurd hl h42
      · refine aw_iload4 37 dX12_picture_37 ?_
        refine sd_call1 39 dX12_picture_39 (c_X12_isLane) ckS_RX12_119 cd_X12_isLane rfl (Nat.le_of_ble_eq_true rfl) ⟨⟨by decide, by decide⟩, by decide, by decide⟩ rfl ?_
        refine aw_ifne_b 42 52 dX12_picture_42 (by decide) (fun h42 => ?_) (fun h42 => ?_)
        · refine aw_aload0 52 dX12_picture_52 ?_
          refine aw_iload3 53 dX12_picture_53 ?_
          refine aw_iload4 54 dX12_picture_54 ?_
          refine aw_iload5 56 dX12_picture_56 ?_
          refine aw_iload1 58 dX12_picture_58 ?_
          refine aw_iload2 59 dX12_picture_59 ?_
          refine aw_imulN 60 (w) (h) dX12_picture_60 rfl rfl ?_
          refine aw_i2l 61 dX12_picture_61 ?_
          refine rw_call1 62 dX12_picture_62 (c_bar0 hk hb) ckV_RX12_122 cd_X12_barred rfl hW rfl (Nat.le_of_ble_eq_true rfl) ⟨⟨by decide, by decide⟩, by decide, by decide⟩ rfl (fun M hW => ?_)
          refine aw_istore6 65 dX12_picture_65 rfl ?_
          refine aw_iload6 67 dX12_picture_67 ?_
          refine aw_if_geN 69 75 (0) dX12_picture_69 (by decide) rfl (by omega) ?_
          refine aw_bipush 75 60 dX12_picture_75 (by decide) ?_
          refine aw_iload3 77 dX12_picture_77 ?_
          refine aw_imulN 78 (60) (k) dX12_picture_78 rfl rfl ?_
          refine aw_iload5 79 dX12_picture_79 ?_
          refine aw_iaddN 81 (60 * k) (i) dX12_picture_81 rfl rfl ?_
          refine aw_istore7 82 dX12_picture_82 rfl ?_
          refine aw_ic0 84 dX12_picture_84 ?_
          refine aw_istore8 85 dX12_picture_85 rfl ?_
          have LP87 : ∀ (dd : Nat) (x : Nat) (M : Mem), w * h - x = dd → (x ≤ w * h) → (∀ y, y < x → irg (τ 30 (60 * k + i + y)) 0 99) → (RO τ M0 M) → AW mX12_picture rmX12_picture (fun r' M' => r' = (some (.int (-2))) ∧ RO (tu τ 0 0 0) M0 M') 87 [some (.ref 25), some (.int (nI w)), some (.int (nI h)), some (.int (nI k)), some (.int l), some (.int (nI i)), some (.int 0), some (.int (nI (60 * k + i))), some (.int (nI x))] [] M 0 0 := by
            intro dd
            induction dd using Nat.strongRecOn with
            | _ dd ih87 =>
              intro x M hdd hx ha hW
              refine aw_iload8 87 dX12_picture_87 ?_
              refine aw_iload1 89 dX12_picture_89 ?_
              refine aw_iload2 90 dX12_picture_90 ?_
              refine aw_imulN 91 (w) (h) dX12_picture_91 rfl rfl ?_
              refine aw_icmp_geN 92 129 (x) (w * h) dX12_picture_92 (by decide) rfl rfl (by omega) (by omega) (fun h92 => ?_) (fun h92 => ?_)
              · obtain ⟨y, hy, hny⟩ := hbad
                exact absurd (ha y (by omega)) hny
              · refine aw_aload0 95 dX12_picture_95 ?_
                refine rw_ga 96 30 dX12_picture_96 ckF_RX12_73_12 (by decide) (by decide) hW ?_
                refine aw_iload7 99 dX12_picture_99 ?_
                refine aw_iload8 101 dX12_picture_101 ?_
                refine aw_iaddN 103 (60 * k + i) (x) dX12_picture_103 rfl rfl ?_
                refine rw_ld 104 30 ((60 * k + i) + x) dX12_picture_104 hW rfl (show (60 * k + i) + x < 240 by omega) ?_
                refine aw_i2l 105 dX12_picture_105 ?_
                refine aw_lc0 106 dX12_picture_106 ?_
                refine aw_ldc2 107 (99) dX12_picture_107 ckL_RX12_126 ?_
                refine sd_call1 110 dX12_picture_110 (c_in2 (0) (99) (by decide) (by decide)) ckS_RX12_99 cd_X12_in rfl (Nat.le_of_ble_eq_true rfl) ⟨⟨by decide, by decide⟩, by decide, by decide⟩ rfl ?_
                refine aw_ifne_b 113 123 dX12_picture_113 (by decide) (fun h113 => ?_) (fun h113 => ?_)
                · refine aw_iinc8 123 (nI (x + 1)) dX12_picture_123 (nI_1 _) rfl ?_
                  refine aw_goto 126 87 dX12_picture_126 (by decide) ?_
                  exact ih87 _ (by omega) (x + 1) M rfl (by omega) (lt_s ha h113) hW
                · refine aw_aload0 116 dX12_picture_116 ?_
                  refine aw_bipush 117 (-2) dX12_picture_117 (by decide) ?_
                  refine rw_call1 119 dX12_picture_119 c_X12_refused ckV_RX12_114 cd_X12_refused rfl hW rfl (Nat.le_of_ble_eq_true rfl) ⟨⟨by decide, by decide⟩, by decide, by decide⟩ rfl (fun M hW => ?_)
                  refine aw_iret 122 dX12_picture_122 rfl (Nat.zero_le _) (Nat.zero_le _) ?_
                  exact ⟨rfl, hW⟩
          exact LP87 _ 0 M rfl (Nat.zero_le _) (fun y hy => absurd hy (by omega)) hW
        · first | exact absurd hiw h22 | exact absurd hih h34 | exact absurd hl h42
  · exact absurd hik h4

set_option maxHeartbeats 4000000 in
set_option maxRecDepth 100000 in
theorem n5_X12_picture {τ : TT} {w h k i : Nat} {l : Int32} (hw1 : 1 ≤ w ∧ w ≤ 4) (hh1 : 1 ≤ h ∧ h ≤ 4) (hk : k < 4) (hl : irg l 0 2) (hs : WS τ) (h0 : ¬ τ 28 k < 0) (hll : τ 29 k = l) (hi : i + w * h ≤ ssz τ k) (hw : WP τ) (hall : ∀ y, y < w * h → irg (τ 30 (60 * k + i + y)) 0 99) (hf : nP τ = 12) : RD mX12_picture rmX12_picture [.int (nI w), .int (nI h), .int (nI k), .int l, .int (nI i)] τ (some (.int (-4))) (tu τ 0 0 0) := by
  intro M0 hW0
  refine am_of rfl rfl (ls := [some (.ref 25), some (.int (nI w)), some (.int (nI h)), some (.int (nI k)), some (.int l), some (.int (nI i)), none, none, none]) rfl ?_
  suffices HH : ∀ M, RO τ M0 M → AW mX12_picture rmX12_picture (fun r' M' => r' = (some (.int (-4))) ∧ RO (tu τ 0 0 0) M0 M') 0 [some (.ref 25), some (.int (nI w)), some (.int (nI h)), some (.int (nI k)), some (.int l), some (.int (nI i)), none, none, none] [] M 0 0 from HH M0 ⟨hW0, Off.rf M0⟩
  intro M hW
  have hik : irg (nI k) 0 3 := irg_nI (b := 3) (by decide) (by omega)
  have hm16 := wmul hw1.2 hh1.2
  have hiw : irg (nI w) 1 4 := by unfold irg; rw [nI_toInt (by omega)]; omega
  have hih : irg (nI h) 1 4 := by unfold irg; rw [nI_toInt (by omega)]; omega
  have hsk := hs.ok hk h0
  have hb := bar_0 hs hk h0 hll hi
  refine aw_iload3 0 dX12_picture_0 ?_
  refine sd_call1 1 dX12_picture_1 (c_X12_noSheet) ckS_RX12_110 cd_X12_noSheet rfl (Nat.le_of_ble_eq_true rfl) ⟨⟨by decide, by decide⟩, by decide, by decide⟩ rfl ?_
  refine aw_ifeq_b 4 13 dX12_picture_4 (by decide) (fun h4 => ?_) (fun h4 => ?_)
  · refine aw_iload1 13 dX12_picture_13 ?_
    refine aw_i2l 14 dX12_picture_14 ?_
    refine aw_lc1 15 dX12_picture_15 ?_
    refine aw_ldc2 16 (4) dX12_picture_16 ckL_RX12_117 ?_
    refine sd_call1 19 dX12_picture_19 (c_in2 (1) (4) (by decide) (by decide)) ckS_RX12_99 cd_X12_in rfl (Nat.le_of_ble_eq_true rfl) ⟨⟨by decide, by decide⟩, by decide, by decide⟩ rfl ?_
    refine aw_ifeq_b 22 45 dX12_picture_22 (by decide) (fun h22 => ?_) (fun h22 => ?_)
    · first | exact absurd hiw h22 | exact absurd hih h34 | exact absurd hl h42
    · refine aw_iload2 25 dX12_picture_25 ?_
      refine aw_i2l 26 dX12_picture_26 ?_
      refine aw_lc1 27 dX12_picture_27 ?_
      refine aw_ldc2 28 (4) dX12_picture_28 ckL_RX12_117 ?_
      refine sd_call1 31 dX12_picture_31 (c_in2 (1) (4) (by decide) (by decide)) ckS_RX12_99 cd_X12_in rfl (Nat.le_of_ble_eq_true rfl) ⟨⟨by decide, by decide⟩, by decide, by decide⟩ rfl ?_
      refine aw_ifeq_b 34 45 dX12_picture_34 (by decide) (fun h34 => ?_) (fun h34 => ?_)
      · first | exact absurd hiw h22 | exact absurd hih h34 | exact absurd hl h42
      · refine aw_iload4 37 dX12_picture_37 ?_
        refine sd_call1 39 dX12_picture_39 (c_X12_isLane) ckS_RX12_119 cd_X12_isLane rfl (Nat.le_of_ble_eq_true rfl) ⟨⟨by decide, by decide⟩, by decide, by decide⟩ rfl ?_
        refine aw_ifne_b 42 52 dX12_picture_42 (by decide) (fun h42 => ?_) (fun h42 => ?_)
        · refine aw_aload0 52 dX12_picture_52 ?_
          refine aw_iload3 53 dX12_picture_53 ?_
          refine aw_iload4 54 dX12_picture_54 ?_
          refine aw_iload5 56 dX12_picture_56 ?_
          refine aw_iload1 58 dX12_picture_58 ?_
          refine aw_iload2 59 dX12_picture_59 ?_
          refine aw_imulN 60 (w) (h) dX12_picture_60 rfl rfl ?_
          refine aw_i2l 61 dX12_picture_61 ?_
          refine rw_call1 62 dX12_picture_62 (c_bar0 hk hb) ckV_RX12_122 cd_X12_barred rfl hW rfl (Nat.le_of_ble_eq_true rfl) ⟨⟨by decide, by decide⟩, by decide, by decide⟩ rfl (fun M hW => ?_)
          refine aw_istore6 65 dX12_picture_65 rfl ?_
          refine aw_iload6 67 dX12_picture_67 ?_
          refine aw_if_geN 69 75 (0) dX12_picture_69 (by decide) rfl (by omega) ?_
          refine aw_bipush 75 60 dX12_picture_75 (by decide) ?_
          refine aw_iload3 77 dX12_picture_77 ?_
          refine aw_imulN 78 (60) (k) dX12_picture_78 rfl rfl ?_
          refine aw_iload5 79 dX12_picture_79 ?_
          refine aw_iaddN 81 (60 * k) (i) dX12_picture_81 rfl rfl ?_
          refine aw_istore7 82 dX12_picture_82 rfl ?_
          refine aw_ic0 84 dX12_picture_84 ?_
          refine aw_istore8 85 dX12_picture_85 rfl ?_
          have LP87 : ∀ (dd : Nat) (x : Nat) (M : Mem), w * h - x = dd → (x ≤ w * h) → (∀ y, y < x → irg (τ 30 (60 * k + i + y)) 0 99) → (RO τ M0 M) → AW mX12_picture rmX12_picture (fun r' M' => r' = (some (.int (-4))) ∧ RO (tu τ 0 0 0) M0 M') 87 [some (.ref 25), some (.int (nI w)), some (.int (nI h)), some (.int (nI k)), some (.int l), some (.int (nI i)), some (.int 0), some (.int (nI (60 * k + i))), some (.int (nI x))] [] M 0 0 := by
            intro dd
            induction dd using Nat.strongRecOn with
            | _ dd ih87 =>
              intro x M hdd hx ha hW
              refine aw_iload8 87 dX12_picture_87 ?_
              refine aw_iload1 89 dX12_picture_89 ?_
              refine aw_iload2 90 dX12_picture_90 ?_
              refine aw_imulN 91 (w) (h) dX12_picture_91 rfl rfl ?_
              refine aw_icmp_geN 92 129 (x) (w * h) dX12_picture_92 (by decide) rfl rfl (by omega) (by omega) (fun h92 => ?_) (fun h92 => ?_)
              · refine aw_aload0 129 dX12_picture_129 ?_
                refine rw_gi 130 1 dX12_picture_130 ckF_RX12_105_12 (by decide) rfl hW ?_
                refine aw_topi (w := nI (nP τ)) (hw.1.2) ?_
                refine aw_bipush 133 12 dX12_picture_133 (by decide) ?_
                refine aw_icmp_neN 135 145 (nP τ) (12) dX12_picture_135 (by decide) rfl rfl (by omega) (by omega) (fun h135 => ?_) (fun h135 => ?_)
                · exact absurd hf h135
                · refine aw_aload0 138 dX12_picture_138 ?_
                  refine aw_bipush 139 (-4) dX12_picture_139 (by decide) ?_
                  refine rw_call1 141 dX12_picture_141 c_X12_refused ckV_RX12_114 cd_X12_refused rfl hW rfl (Nat.le_of_ble_eq_true rfl) ⟨⟨by decide, by decide⟩, by decide, by decide⟩ rfl (fun M hW => ?_)
                  refine aw_iret 144 dX12_picture_144 rfl (Nat.zero_le _) (Nat.zero_le _) ?_
                  exact ⟨rfl, hW⟩
              · refine aw_aload0 95 dX12_picture_95 ?_
                refine rw_ga 96 30 dX12_picture_96 ckF_RX12_73_12 (by decide) (by decide) hW ?_
                refine aw_iload7 99 dX12_picture_99 ?_
                refine aw_iload8 101 dX12_picture_101 ?_
                refine aw_iaddN 103 (60 * k + i) (x) dX12_picture_103 rfl rfl ?_
                refine rw_ld 104 30 ((60 * k + i) + x) dX12_picture_104 hW rfl (show (60 * k + i) + x < 240 by omega) ?_
                refine aw_i2l 105 dX12_picture_105 ?_
                refine aw_lc0 106 dX12_picture_106 ?_
                refine aw_ldc2 107 (99) dX12_picture_107 ckL_RX12_126 ?_
                refine sd_call1 110 dX12_picture_110 (c_in2 (0) (99) (by decide) (by decide)) ckS_RX12_99 cd_X12_in rfl (Nat.le_of_ble_eq_true rfl) ⟨⟨by decide, by decide⟩, by decide, by decide⟩ rfl ?_
                refine aw_ifne_b 113 123 dX12_picture_113 (by decide) (fun h113 => ?_) (fun h113 => ?_)
                · refine aw_iinc8 123 (nI (x + 1)) dX12_picture_123 (nI_1 _) rfl ?_
                  refine aw_goto 126 87 dX12_picture_126 (by decide) ?_
                  exact ih87 _ (by omega) (x + 1) M rfl (by omega) (lt_s ha h113) hW
                · exact absurd (hall x (by omega)) h113
          exact LP87 _ 0 M rfl (Nat.zero_le _) (fun y hy => absurd hy (by omega)) hW
        · first | exact absurd hiw h22 | exact absurd hih h34 | exact absurd hl h42
  · exact absurd hik h4

def pcT (τ : TT) (n w b : Nat) : Nat → TT
  | 0 => τ
  | x + 1 => tu (pcT τ n w b x) 4 (16 * n + x % w + 4 * (x / w)) (τ 30 (b + x))
theorem pcT_ne {τ : TT} {n w b x i : Nat} (h : i ≠ 4) : pcT τ n w b x i = τ i := by
  induction x with
  | zero => rfl
  | succ x ih =>
    show tu _ _ _ _ i = _
    rw [tu_ne h, ih]
def tPc (τ : TT) (w h k i : Nat) : TT := tu (tu (pcT (tu (tu τ 2 (nP τ) (nI w)) 3 (nP τ) (nI h)) (nP τ) w (60 * k + i) (w * h)) 1 0 (nI (nP τ + 1))) 0 0 0

set_option maxHeartbeats 4000000 in
set_option maxRecDepth 100000 in
theorem c_X12_picture {τ : TT} {w h k i : Nat} {l : Int32} (hw1 : 1 ≤ w ∧ w ≤ 4) (hh1 : 1 ≤ h ∧ h ≤ 4) (hk : k < 4) (hl : irg l 0 2) (hs : WS τ) (h0 : ¬ τ 28 k < 0) (hll : τ 29 k = l) (hi : i + w * h ≤ ssz τ k) (hw : WP τ) (hall : ∀ y, y < w * h → irg (τ 30 (60 * k + i + y)) 0 99) (hf : ¬ nP τ = 12) : RD mX12_picture rmX12_picture [.int (nI w), .int (nI h), .int (nI k), .int l, .int (nI i)] τ (some (.int (nI (nP τ)))) (tPc τ w h k i) := by
  intro M0 hW0
  refine am_of rfl rfl (ls := [some (.ref 25), some (.int (nI w)), some (.int (nI h)), some (.int (nI k)), some (.int l), some (.int (nI i)), none, none, none]) rfl ?_
  suffices HH : ∀ M, RO τ M0 M → AW mX12_picture rmX12_picture (fun r' M' => r' = (some (.int (nI (nP τ)))) ∧ RO (tPc τ w h k i) M0 M') 0 [some (.ref 25), some (.int (nI w)), some (.int (nI h)), some (.int (nI k)), some (.int l), some (.int (nI i)), none, none, none] [] M 0 0 from HH M0 ⟨hW0, Off.rf M0⟩
  intro M hW
  have hik : irg (nI k) 0 3 := irg_nI (b := 3) (by decide) (by omega)
  have hm16 := wmul hw1.2 hh1.2
  have hiw : irg (nI w) 1 4 := by unfold irg; rw [nI_toInt (by omega)]; omega
  have hih : irg (nI h) 1 4 := by unfold irg; rw [nI_toInt (by omega)]; omega
  have hsk := hs.ok hk h0
  have hb := bar_0 hs hk h0 hll hi
  have hn12 := hw.1.1
  refine aw_iload3 0 dX12_picture_0 ?_
  refine sd_call1 1 dX12_picture_1 (c_X12_noSheet) ckS_RX12_110 cd_X12_noSheet rfl (Nat.le_of_ble_eq_true rfl) ⟨⟨by decide, by decide⟩, by decide, by decide⟩ rfl ?_
  refine aw_ifeq_b 4 13 dX12_picture_4 (by decide) (fun h4 => ?_) (fun h4 => ?_)
  · refine aw_iload1 13 dX12_picture_13 ?_
    refine aw_i2l 14 dX12_picture_14 ?_
    refine aw_lc1 15 dX12_picture_15 ?_
    refine aw_ldc2 16 (4) dX12_picture_16 ckL_RX12_117 ?_
    refine sd_call1 19 dX12_picture_19 (c_in2 (1) (4) (by decide) (by decide)) ckS_RX12_99 cd_X12_in rfl (Nat.le_of_ble_eq_true rfl) ⟨⟨by decide, by decide⟩, by decide, by decide⟩ rfl ?_
    refine aw_ifeq_b 22 45 dX12_picture_22 (by decide) (fun h22 => ?_) (fun h22 => ?_)
    · first | exact absurd hiw h22 | exact absurd hih h34 | exact absurd hl h42
    · refine aw_iload2 25 dX12_picture_25 ?_
      refine aw_i2l 26 dX12_picture_26 ?_
      refine aw_lc1 27 dX12_picture_27 ?_
      refine aw_ldc2 28 (4) dX12_picture_28 ckL_RX12_117 ?_
      refine sd_call1 31 dX12_picture_31 (c_in2 (1) (4) (by decide) (by decide)) ckS_RX12_99 cd_X12_in rfl (Nat.le_of_ble_eq_true rfl) ⟨⟨by decide, by decide⟩, by decide, by decide⟩ rfl ?_
      refine aw_ifeq_b 34 45 dX12_picture_34 (by decide) (fun h34 => ?_) (fun h34 => ?_)
      · first | exact absurd hiw h22 | exact absurd hih h34 | exact absurd hl h42
      · refine aw_iload4 37 dX12_picture_37 ?_
        refine sd_call1 39 dX12_picture_39 (c_X12_isLane) ckS_RX12_119 cd_X12_isLane rfl (Nat.le_of_ble_eq_true rfl) ⟨⟨by decide, by decide⟩, by decide, by decide⟩ rfl ?_
        refine aw_ifne_b 42 52 dX12_picture_42 (by decide) (fun h42 => ?_) (fun h42 => ?_)
        · refine aw_aload0 52 dX12_picture_52 ?_
          refine aw_iload3 53 dX12_picture_53 ?_
          refine aw_iload4 54 dX12_picture_54 ?_
          refine aw_iload5 56 dX12_picture_56 ?_
          refine aw_iload1 58 dX12_picture_58 ?_
          refine aw_iload2 59 dX12_picture_59 ?_
          refine aw_imulN 60 (w) (h) dX12_picture_60 rfl rfl ?_
          refine aw_i2l 61 dX12_picture_61 ?_
          refine rw_call1 62 dX12_picture_62 (c_bar0 hk hb) ckV_RX12_122 cd_X12_barred rfl hW rfl (Nat.le_of_ble_eq_true rfl) ⟨⟨by decide, by decide⟩, by decide, by decide⟩ rfl (fun M hW => ?_)
          refine aw_istore6 65 dX12_picture_65 rfl ?_
          refine aw_iload6 67 dX12_picture_67 ?_
          refine aw_if_geN 69 75 (0) dX12_picture_69 (by decide) rfl (by omega) ?_
          refine aw_bipush 75 60 dX12_picture_75 (by decide) ?_
          refine aw_iload3 77 dX12_picture_77 ?_
          refine aw_imulN 78 (60) (k) dX12_picture_78 rfl rfl ?_
          refine aw_iload5 79 dX12_picture_79 ?_
          refine aw_iaddN 81 (60 * k) (i) dX12_picture_81 rfl rfl ?_
          refine aw_istore7 82 dX12_picture_82 rfl ?_
          refine aw_ic0 84 dX12_picture_84 ?_
          refine aw_istore8 85 dX12_picture_85 rfl ?_
          have LP87 : ∀ (dd : Nat) (x : Nat) (M : Mem), w * h - x = dd → (x ≤ w * h) → (∀ y, y < x → irg (τ 30 (60 * k + i + y)) 0 99) → (RO τ M0 M) → AW mX12_picture rmX12_picture (fun r' M' => r' = (some (.int (nI (nP τ)))) ∧ RO (tPc τ w h k i) M0 M') 87 [some (.ref 25), some (.int (nI w)), some (.int (nI h)), some (.int (nI k)), some (.int l), some (.int (nI i)), some (.int 0), some (.int (nI (60 * k + i))), some (.int (nI x))] [] M 0 0 := by
            intro dd
            induction dd using Nat.strongRecOn with
            | _ dd ih87 =>
              intro x M hdd hx ha hW
              refine aw_iload8 87 dX12_picture_87 ?_
              refine aw_iload1 89 dX12_picture_89 ?_
              refine aw_iload2 90 dX12_picture_90 ?_
              refine aw_imulN 91 (w) (h) dX12_picture_91 rfl rfl ?_
              refine aw_icmp_geN 92 129 (x) (w * h) dX12_picture_92 (by decide) rfl rfl (by omega) (by omega) (fun h92 => ?_) (fun h92 => ?_)
              · refine aw_aload0 129 dX12_picture_129 ?_
                refine rw_gi 130 1 dX12_picture_130 ckF_RX12_105_12 (by decide) rfl hW ?_
                refine aw_topi (w := nI (nP τ)) (hw.1.2) ?_
                refine aw_bipush 133 12 dX12_picture_133 (by decide) ?_
                refine aw_icmp_neN 135 145 (nP τ) (12) dX12_picture_135 (by decide) rfl rfl (by omega) (by omega) (fun h135 => ?_) (fun h135 => ?_)
                · refine aw_aload0 145 dX12_picture_145 ?_
                  refine rw_ga 146 2 dX12_picture_146 ckF_RX12_7_12 (by decide) (by decide) hW ?_
                  refine aw_aload0 149 dX12_picture_149 ?_
                  refine rw_gi 150 1 dX12_picture_150 ckF_RX12_105_12 (by decide) rfl hW ?_
                  refine aw_topi (w := nI (nP τ)) (hw.1.2) ?_
                  refine aw_iload1 153 dX12_picture_153 ?_
                  refine rw_st 154 2 (nP τ) dX12_picture_154 hW rfl (show nP τ < 12 by omega) (fun M hW => ?_)
                  refine aw_aload0 155 dX12_picture_155 ?_
                  refine rw_ga 156 3 dX12_picture_156 ckF_RX12_13_12 (by decide) (by decide) hW ?_
                  refine aw_aload0 159 dX12_picture_159 ?_
                  refine rw_gi 160 1 dX12_picture_160 ckF_RX12_105_12 (by decide) rfl hW ?_
                  refine aw_topi (w := nI (nP τ)) (hw.1.2) ?_
                  refine aw_iload2 163 dX12_picture_163 ?_
                  refine rw_st 164 3 (nP τ) dX12_picture_164 hW rfl (show nP τ < 12 by omega) (fun M hW => ?_)
                  refine aw_ic0 165 dX12_picture_165 ?_
                  refine aw_istore8 166 dX12_picture_166 rfl ?_
                  have LP168 : ∀ (dd : Nat) (x : Nat) (M : Mem), w * h - x = dd → (x ≤ w * h) → (RO (pcT (tu (tu τ 2 (nP τ) (nI w)) 3 (nP τ) (nI h)) (nP τ) w (60 * k + i) x) M0 M) → AW mX12_picture rmX12_picture (fun r' M' => r' = (some (.int (nI (nP τ)))) ∧ RO (tPc τ w h k i) M0 M') 168 [some (.ref 25), some (.int (nI w)), some (.int (nI h)), some (.int (nI k)), some (.int l), some (.int (nI i)), some (.int 0), some (.int (nI (60 * k + i))), some (.int (nI x))] [] M 0 0 := by
                    intro dd
                    induction dd using Nat.strongRecOn with
                    | _ dd ih168 =>
                      intro x M hdd hx hW
                      have hq1 : x / w ≤ 16 := Nat.le_trans (Nat.div_le_self _ _) (by omega)
                      refine aw_iload8 168 dX12_picture_168 ?_
                      refine aw_iload1 170 dX12_picture_170 ?_
                      refine aw_iload2 171 dX12_picture_171 ?_
                      refine aw_imulN 172 (w) (h) dX12_picture_172 rfl rfl ?_
                      refine aw_icmp_geN 173 216 (x) (w * h) dX12_picture_173 (by decide) rfl rfl (by omega) (by omega) (fun h173 => ?_) (fun h173 => ?_)
                      · have he : x = w * h := by omega
                        subst he
                        refine aw_aload0 216 dX12_picture_216 ?_
                        refine aw_dup 217 dX12_picture_217 rfl ?_
                        refine rw_gi 218 1 dX12_picture_218 ckF_RX12_105_12 (by decide) rfl hW ?_
                        refine aw_topi (w := nI (nP τ)) (by rw [pcT_ne (by decide)]; exact hw.1.2) ?_
                        refine aw_ic1 221 dX12_picture_221 ?_
                        refine aw_iaddN 222 (nP τ) (1) dX12_picture_222 rfl rfl ?_
                        refine rw_pi 223 1 dX12_picture_223 ckF_RX12_105_12 ckP12_1 rfl (by decide) rfl hW (fun M hW => ?_)
                        refine aw_aload0 226 dX12_picture_226 ?_
                        refine aw_aload0 227 dX12_picture_227 ?_
                        refine rw_gi 228 1 dX12_picture_228 ckF_RX12_105_12 (by decide) rfl hW ?_
                        refine aw_topi (w := nI (nP τ + 1)) tu_at ?_
                        refine aw_ic1 231 dX12_picture_231 ?_
                        refine aw_isubN 232 (nP τ + 1) (1) dX12_picture_232 rfl rfl (by omega) ?_
                        refine rw_call1 233 dX12_picture_233 c_X12_refused ckV_RX12_114 cd_X12_refused rfl hW rfl (Nat.le_of_ble_eq_true rfl) ⟨⟨by decide, by decide⟩, by decide, by decide⟩ rfl (fun M hW => ?_)
                        refine aw_iret 236 dX12_picture_236 rfl (Nat.zero_le _) (Nat.zero_le _) ?_
                        exact ⟨by rw [show nP τ + 1 - 1 = nP τ by omega], hW⟩
                      · have hq2 : x / w < h := Nat.div_lt_of_lt_mul h173
                        have hq3 : x % w < w := Nat.mod_lt _ (by omega)
                        refine aw_aload0 176 dX12_picture_176 ?_
                        refine rw_ga 177 4 dX12_picture_177 ckF_RX12_16_12 (by decide) (by decide) hW ?_
                        refine aw_bipush 180 16 dX12_picture_180 (by decide) ?_
                        refine aw_aload0 182 dX12_picture_182 ?_
                        refine rw_gi 183 1 dX12_picture_183 ckF_RX12_105_12 (by decide) rfl hW ?_
                        refine aw_topi (w := nI (nP τ)) (by rw [pcT_ne (by decide)]; exact hw.1.2) ?_
                        refine aw_imulN 186 (16) (nP τ) dX12_picture_186 rfl rfl ?_
                        refine aw_iload8 187 dX12_picture_187 ?_
                        refine aw_iload1 189 dX12_picture_189 ?_
                        refine aw_iremN 190 (x) (w) dX12_picture_190 rfl rfl (by omega) (by omega) (by omega) ?_
                        refine aw_iaddN 191 (16 * (nP τ)) (x % w) dX12_picture_191 rfl rfl ?_
                        refine aw_ic4 192 dX12_picture_192 ?_
                        refine aw_iload8 193 dX12_picture_193 ?_
                        refine aw_iload1 195 dX12_picture_195 ?_
                        refine aw_idivN 196 (x) (w) dX12_picture_196 rfl rfl (by omega) (by omega) (by omega) ?_
                        refine aw_imulN 197 (4) (x / w) dX12_picture_197 rfl rfl ?_
                        refine aw_iaddN 198 ((16 * (nP τ)) + (x % w)) (4 * (x / w)) dX12_picture_198 rfl rfl ?_
                        refine aw_aload0 199 dX12_picture_199 ?_
                        refine rw_ga 200 30 dX12_picture_200 ckF_RX12_73_12 (by decide) (by decide) hW ?_
                        refine aw_iload7 203 dX12_picture_203 ?_
                        refine aw_iload8 205 dX12_picture_205 ?_
                        refine aw_iaddN 207 (60 * k + i) (x) dX12_picture_207 rfl rfl ?_
                        refine rw_ld 208 30 ((60 * k + i) + x) dX12_picture_208 hW rfl (show (60 * k + i) + x < 240 by omega) ?_
                        refine aw_topi (show _ = τ 30 (60 * k + i + x) by rw [pcT_ne (by decide)]; rfl) ?_
                        refine rw_st 209 4 (((16 * (nP τ)) + (x % w)) + (4 * (x / w))) dX12_picture_209 hW rfl (show ((16 * (nP τ)) + (x % w)) + (4 * (x / w)) < 192 by omega) (fun M hW => ?_)
                        refine aw_iinc8 210 (nI (x + 1)) dX12_picture_210 (nI_1 _) rfl ?_
                        refine aw_goto 213 168 dX12_picture_213 (by decide) ?_
                        exact ih168 _ (by omega) (x + 1) M rfl (by omega) hW
                  exact LP168 _ 0 M rfl (Nat.zero_le _) hW
                · exact absurd h135 hf
              · refine aw_aload0 95 dX12_picture_95 ?_
                refine rw_ga 96 30 dX12_picture_96 ckF_RX12_73_12 (by decide) (by decide) hW ?_
                refine aw_iload7 99 dX12_picture_99 ?_
                refine aw_iload8 101 dX12_picture_101 ?_
                refine aw_iaddN 103 (60 * k + i) (x) dX12_picture_103 rfl rfl ?_
                refine rw_ld 104 30 ((60 * k + i) + x) dX12_picture_104 hW rfl (show (60 * k + i) + x < 240 by omega) ?_
                refine aw_i2l 105 dX12_picture_105 ?_
                refine aw_lc0 106 dX12_picture_106 ?_
                refine aw_ldc2 107 (99) dX12_picture_107 ckL_RX12_126 ?_
                refine sd_call1 110 dX12_picture_110 (c_in2 (0) (99) (by decide) (by decide)) ckS_RX12_99 cd_X12_in rfl (Nat.le_of_ble_eq_true rfl) ⟨⟨by decide, by decide⟩, by decide, by decide⟩ rfl ?_
                refine aw_ifne_b 113 123 dX12_picture_113 (by decide) (fun h113 => ?_) (fun h113 => ?_)
                · refine aw_iinc8 123 (nI (x + 1)) dX12_picture_123 (nI_1 _) rfl ?_
                  refine aw_goto 126 87 dX12_picture_126 (by decide) ?_
                  exact ih87 _ (by omega) (x + 1) M rfl (by omega) (lt_s ha h113) hW
                · exact absurd (hall x (by omega)) h113
          exact LP87 _ 0 M rfl (Nat.zero_le _) (fun y hy => absurd hy (by omega)) hW
        · first | exact absurd hiw h22 | exact absurd hih h34 | exact absurd hl h42
  · exact absurd hik h4

