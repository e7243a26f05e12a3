/-! the reference: telling, sheets (rows laid by gen/ref5.py) -/
def trc (τ : TT) (n : Int32) : TT := tu τ 32 0 (31 * τ 32 0 + n)

set_option maxHeartbeats 4000000 in
set_option maxRecDepth 100000 in
theorem n3_X12_tell {τ : TT} {p : Nat} (hw : WP τ) (hp : p < nP τ) (hk : τ 16 p < 0) : RD mX12_tell rmX12_tell [.int (nI p)] τ (some (.int (-3))) (τ) := by
  intro M0 hW0
  refine am_of rfl rfl (ls := [some (.ref 25), some (.int (nI p)), none]) rfl ?_
  suffices HH : ∀ M, RO τ M0 M → AW mX12_tell rmX12_tell (fun r' M' => r' = (some (.int (-3))) ∧ RO (τ) M0 M') 0 [some (.ref 25), some (.int (nI p)), none] [] M 0 0 from HH M0 ⟨hW0, Off.rf M0⟩
  intro M hW
  have hn12 := hw.1.1
  have hwd := (hw.2 p hp).1
  have hhg := (hw.2 p hp).2
  have hip := ir_nI (n := nP τ) (by omega) hp
  refine aw_aload0 0 dX12_tell_0 ?_
  refine aw_iload1 1 dX12_tell_1 ?_
  refine rw_call1 2 dX12_tell_2 (c_X12_noPicture hw) ckV_RX12_146 cd_X12_noPicture rfl hW rfl (Nat.le_of_ble_eq_true rfl) ⟨⟨by decide, by decide⟩, by decide, by decide⟩ rfl (fun M hW => ?_)
  refine aw_ifeq_b 5 10 dX12_tell_5 (by decide) (fun h5 => ?_) (fun h5 => ?_)
  · refine aw_aload0 10 dX12_tell_10 ?_
    refine aw_iload1 11 dX12_tell_11 ?_
    refine rw_call1 12 dX12_tell_12 (c_X12_noLine (by omega)) ckV_RX12_227 cd_X12_noLine rfl hW rfl (Nat.le_of_ble_eq_true rfl) ⟨⟨by decide, by decide⟩, by decide, by decide⟩ rfl (fun M hW => ?_)
    refine aw_ifeq_b 15 21 dX12_tell_15 (by decide) (fun h15 => ?_) (fun h15 => ?_)
    · exact absurd hk h15
    · refine aw_bipush 18 (-3) dX12_tell_18 (by decide) ?_
      refine aw_iret 20 dX12_tell_20 rfl (Nat.zero_le _) (Nat.zero_le _) ?_
      exact ⟨rfl, hW⟩
  · exact absurd hip h5

set_option maxHeartbeats 4000000 in
set_option maxRecDepth 100000 in
theorem c0_X12_tell {τ : TT} {p : Nat} (hw : WP τ) (hp : p < nP τ) (hk : τ 16 p = 0) : RD mX12_tell rmX12_tell [.int (nI p)] τ (some (.int (τ 18 p))) (trc τ 1) := by
  intro M0 hW0
  refine am_of rfl rfl (ls := [some (.ref 25), some (.int (nI p)), none]) rfl ?_
  suffices HH : ∀ M, RO τ M0 M → AW mX12_tell rmX12_tell (fun r' M' => r' = (some (.int (τ 18 p))) ∧ RO (trc τ 1) M0 M') 0 [some (.ref 25), some (.int (nI p)), none] [] M 0 0 from HH M0 ⟨hW0, Off.rf M0⟩
  intro M hW
  have hn12 := hw.1.1
  have hwd := (hw.2 p hp).1
  have hhg := (hw.2 p hp).2
  have hip := ir_nI (n := nP τ) (by omega) hp
  refine aw_aload0 0 dX12_tell_0 ?_
  refine aw_iload1 1 dX12_tell_1 ?_
  refine rw_call1 2 dX12_tell_2 (c_X12_noPicture hw) ckV_RX12_146 cd_X12_noPicture rfl hW rfl (Nat.le_of_ble_eq_true rfl) ⟨⟨by decide, by decide⟩, by decide, by decide⟩ rfl (fun M hW => ?_)
  refine aw_ifeq_b 5 10 dX12_tell_5 (by decide) (fun h5 => ?_) (fun h5 => ?_)
  · refine aw_aload0 10 dX12_tell_10 ?_
    refine aw_iload1 11 dX12_tell_11 ?_
    refine rw_call1 12 dX12_tell_12 (c_X12_noLine (by omega)) ckV_RX12_227 cd_X12_noLine rfl hW rfl (Nat.le_of_ble_eq_true rfl) ⟨⟨by decide, by decide⟩, by decide, by decide⟩ rfl (fun M hW => ?_)
    refine aw_ifeq_b 15 21 dX12_tell_15 (by decide) (fun h15 => ?_) (fun h15 => ?_)
    · refine aw_aload0 21 dX12_tell_21 ?_
      refine rw_ga 22 16 dX12_tell_22 ckF_RX12_37_12 (by decide) (by decide) hW ?_
      refine aw_iload1 25 dX12_tell_25 ?_
      refine rw_ld 26 16 (p) dX12_tell_26 hW rfl (show p < 12 by omega) ?_
      refine aw_topi hk ?_
      refine aw_istore2 27 dX12_tell_27 rfl ?_
      refine aw_iload2 28 dX12_tell_28 ?_
      refine aw_ic2 29 dX12_tell_29 ?_
      refine aw_icmp_neN 30 38 (0) (2) dX12_tell_30 (by decide) rfl rfl (by decide) (by decide) (fun _ => ?_) (fun h => absurd h (by decide))
      refine aw_iload2 38 dX12_tell_38 ?_
      refine aw_if_leN 39 47 (0) dX12_tell_39 (by decide) rfl (by decide) (fun _ => ?_) (fun h => absurd h (by decide))
      refine aw_aload0 47 dX12_tell_47 ?_
      refine aw_ic1 48 dX12_tell_48 ?_
      refine rw_call0 49 dX12_tell_49 c_X12_traced ckV_RX12_307 cd_X12_traced rfl hW rfl (Nat.le_of_ble_eq_true rfl) ⟨⟨by decide, by decide⟩, by decide, by decide⟩ rfl (fun M hW => ?_)
      refine aw_iload2 52 dX12_tell_52 ?_
      refine aw_ic2 53 dX12_tell_53 ?_
      refine aw_icmp_neN 54 62 (0) (2) dX12_tell_54 (by decide) rfl rfl (by decide) (by decide) (fun _ => ?_) (fun h => absurd h (by decide))
      refine aw_iload2 62 dX12_tell_62 ?_
      refine aw_if_neN 63 75 (0) dX12_tell_63 (by decide) rfl (by decide) (fun h => absurd h (by decide)) (fun _ => ?_)
      refine aw_aload0 66 dX12_tell_66 ?_
      refine rw_ga 67 18 dX12_tell_67 ckF_RX12_43_12 (by decide) (by decide) hW ?_
      refine aw_iload1 70 dX12_tell_70 ?_
      refine rw_ld 71 18 (p) dX12_tell_71 hW rfl (show p < 12 by omega) ?_
      refine aw_goto 72 105 dX12_tell_72 (by decide) ?_
      refine aw_iret 105 dX12_tell_105 rfl (Nat.zero_le _) (Nat.zero_le _) ?_
      exact ⟨rfl, hW⟩
    · exact absurd h15 (by rw [hk]; decide)
  · exact absurd hip h5

set_option maxHeartbeats 4000000 in
set_option maxRecDepth 100000 in
theorem c1_X12_tell {τ : TT} {p : Nat} (hw : WP τ) (hp : p < nP τ) (hk : τ 16 p = 1) : RD mX12_tell rmX12_tell [.int (nI p)] τ (some (.int (τ 18 p + 1000))) (trc (trc τ 2) 1) := by
  intro M0 hW0
  refine am_of rfl rfl (ls := [some (.ref 25), some (.int (nI p)), none]) rfl ?_
  suffices HH : ∀ M, RO τ M0 M → AW mX12_tell rmX12_tell (fun r' M' => r' = (some (.int (τ 18 p + 1000))) ∧ RO (trc (trc τ 2) 1) M0 M') 0 [some (.ref 25), some (.int (nI p)), none] [] M 0 0 from HH M0 ⟨hW0, Off.rf M0⟩
  intro M hW
  have hn12 := hw.1.1
  have hwd := (hw.2 p hp).1
  have hhg := (hw.2 p hp).2
  have hip := ir_nI (n := nP τ) (by omega) hp
  refine aw_aload0 0 dX12_tell_0 ?_
  refine aw_iload1 1 dX12_tell_1 ?_
  refine rw_call1 2 dX12_tell_2 (c_X12_noPicture hw) ckV_RX12_146 cd_X12_noPicture rfl hW rfl (Nat.le_of_ble_eq_true rfl) ⟨⟨by decide, by decide⟩, by decide, by decide⟩ rfl (fun M hW => ?_)
  refine aw_ifeq_b 5 10 dX12_tell_5 (by decide) (fun h5 => ?_) (fun h5 => ?_)
  · refine aw_aload0 10 dX12_tell_10 ?_
    refine aw_iload1 11 dX12_tell_11 ?_
    refine rw_call1 12 dX12_tell_12 (c_X12_noLine (by omega)) ckV_RX12_227 cd_X12_noLine rfl hW rfl (Nat.le_of_ble_eq_true rfl) ⟨⟨by decide, by decide⟩, by decide, by decide⟩ rfl (fun M hW => ?_)
    refine aw_ifeq_b 15 21 dX12_tell_15 (by decide) (fun h15 => ?_) (fun h15 => ?_)
    · refine aw_aload0 21 dX12_tell_21 ?_
      refine rw_ga 22 16 dX12_tell_22 ckF_RX12_37_12 (by decide) (by decide) hW ?_
      refine aw_iload1 25 dX12_tell_25 ?_
      refine rw_ld 26 16 (p) dX12_tell_26 hW rfl (show p < 12 by omega) ?_
      refine aw_topi hk ?_
      refine aw_istore2 27 dX12_tell_27 rfl ?_
      refine aw_iload2 28 dX12_tell_28 ?_
      refine aw_ic2 29 dX12_tell_29 ?_
      refine aw_icmp_neN 30 38 (1) (2) dX12_tell_30 (by decide) rfl rfl (by decide) (by decide) (fun _ => ?_) (fun h => absurd h (by decide))
      refine aw_iload2 38 dX12_tell_38 ?_
      refine aw_if_leN 39 47 (1) dX12_tell_39 (by decide) rfl (by decide) (fun h => absurd h (by decide)) (fun _ => ?_)
      refine aw_aload0 42 dX12_tell_42 ?_
      refine aw_ic2 43 dX12_tell_43 ?_
      refine rw_call0 44 dX12_tell_44 c_X12_traced ckV_RX12_307 cd_X12_traced rfl hW rfl (Nat.le_of_ble_eq_true rfl) ⟨⟨by decide, by decide⟩, by decide, by decide⟩ rfl (fun M hW => ?_)
      refine aw_aload0 47 dX12_tell_47 ?_
      refine aw_ic1 48 dX12_tell_48 ?_
      refine rw_call0 49 dX12_tell_49 c_X12_traced ckV_RX12_307 cd_X12_traced rfl hW rfl (Nat.le_of_ble_eq_true rfl) ⟨⟨by decide, by decide⟩, by decide, by decide⟩ rfl (fun M hW => ?_)
      refine aw_iload2 52 dX12_tell_52 ?_
      refine aw_ic2 53 dX12_tell_53 ?_
      refine aw_icmp_neN 54 62 (1) (2) dX12_tell_54 (by decide) rfl rfl (by decide) (by decide) (fun _ => ?_) (fun h => absurd h (by decide))
      refine aw_iload2 62 dX12_tell_62 ?_
      refine aw_if_neN 63 75 (1) dX12_tell_63 (by decide) rfl (by decide) (fun _ => ?_) (fun h => absurd h (by decide))
      refine aw_iload2 75 dX12_tell_75 ?_
      refine aw_ic1 76 dX12_tell_76 ?_
      refine aw_icmp_neN 77 93 (1) (1) dX12_tell_77 (by decide) rfl rfl (by decide) (by decide) (fun h => absurd h (by decide)) (fun _ => ?_)
      refine aw_aload0 80 dX12_tell_80 ?_
      refine rw_ga 81 18 dX12_tell_81 ckF_RX12_43_12 (by decide) (by decide) hW ?_
      refine aw_iload1 84 dX12_tell_84 ?_
      refine rw_ld 85 18 (p) dX12_tell_85 hW rfl (show p < 12 by omega) ?_
      refine aw_sipush 86 1000 dX12_tell_86 (by decide) ?_
      refine aw_iadd 89 dX12_tell_89 ?_
      refine aw_goto 90 105 dX12_tell_90 (by decide) ?_
      refine aw_iret 105 dX12_tell_105 rfl (Nat.zero_le _) (Nat.zero_le _) ?_
      exact ⟨rfl, hW⟩
    · exact absurd h15 (by rw [hk]; decide)
  · exact absurd hip h5

set_option maxHeartbeats 4000000 in
set_option maxRecDepth 100000 in
theorem c2_X12_tell {τ : TT} {p : Nat} (hw : WP τ) (hp : p < nP τ) (hk : τ 16 p = 2) : RD mX12_tell rmX12_tell [.int (nI p)] τ (some (.int (2 * τ 18 p + 1000))) (trc (trc (trc (trc τ 3) 2) 1) 1) := by
  intro M0 hW0
  refine am_of rfl rfl (ls := [some (.ref 25), some (.int (nI p)), none]) rfl ?_
  suffices HH : ∀ M, RO τ M0 M → AW mX12_tell rmX12_tell (fun r' M' => r' = (some (.int (2 * τ 18 p + 1000))) ∧ RO (trc (trc (trc (trc τ 3) 2) 1) 1) M0 M') 0 [some (.ref 25), some (.int (nI p)), none] [] M 0 0 from HH M0 ⟨hW0, Off.rf M0⟩
  intro M hW
  have hn12 := hw.1.1
  have hwd := (hw.2 p hp).1
  have hhg := (hw.2 p hp).2
  have hip := ir_nI (n := nP τ) (by omega) hp
  refine aw_aload0 0 dX12_tell_0 ?_
  refine aw_iload1 1 dX12_tell_1 ?_
  refine rw_call1 2 dX12_tell_2 (c_X12_noPicture hw) ckV_RX12_146 cd_X12_noPicture rfl hW rfl (Nat.le_of_ble_eq_true rfl) ⟨⟨by decide, by decide⟩, by decide, by decide⟩ rfl (fun M hW => ?_)
  refine aw_ifeq_b 5 10 dX12_tell_5 (by decide) (fun h5 => ?_) (fun h5 => ?_)
  · refine aw_aload0 10 dX12_tell_10 ?_
    refine aw_iload1 11 dX12_tell_11 ?_
    refine rw_call1 12 dX12_tell_12 (c_X12_noLine (by omega)) ckV_RX12_227 cd_X12_noLine rfl hW rfl (Nat.le_of_ble_eq_true rfl) ⟨⟨by decide, by decide⟩, by decide, by decide⟩ rfl (fun M hW => ?_)
    refine aw_ifeq_b 15 21 dX12_tell_15 (by decide) (fun h15 => ?_) (fun h15 => ?_)
    · refine aw_aload0 21 dX12_tell_21 ?_
      refine rw_ga 22 16 dX12_tell_22 ckF_RX12_37_12 (by decide) (by decide) hW ?_
      refine aw_iload1 25 dX12_tell_25 ?_
      refine rw_ld 26 16 (p) dX12_tell_26 hW rfl (show p < 12 by omega) ?_
      refine aw_topi hk ?_
      refine aw_istore2 27 dX12_tell_27 rfl ?_
      refine aw_iload2 28 dX12_tell_28 ?_
      refine aw_ic2 29 dX12_tell_29 ?_
      refine aw_icmp_neN 30 38 (2) (2) dX12_tell_30 (by decide) rfl rfl (by decide) (by decide) (fun h => absurd h (by decide)) (fun _ => ?_)
      refine aw_aload0 33 dX12_tell_33 ?_
      refine aw_ic3 34 dX12_tell_34 ?_
      refine rw_call0 35 dX12_tell_35 c_X12_traced ckV_RX12_307 cd_X12_traced rfl hW rfl (Nat.le_of_ble_eq_true rfl) ⟨⟨by decide, by decide⟩, by decide, by decide⟩ rfl (fun M hW => ?_)
      refine aw_iload2 38 dX12_tell_38 ?_
      refine aw_if_leN 39 47 (2) dX12_tell_39 (by decide) rfl (by decide) (fun h => absurd h (by decide)) (fun _ => ?_)
      refine aw_aload0 42 dX12_tell_42 ?_
      refine aw_ic2 43 dX12_tell_43 ?_
      refine rw_call0 44 dX12_tell_44 c_X12_traced ckV_RX12_307 cd_X12_traced rfl hW rfl (Nat.le_of_ble_eq_true rfl) ⟨⟨by decide, by decide⟩, by decide, by decide⟩ rfl (fun M hW => ?_)
      refine aw_aload0 47 dX12_tell_47 ?_
      refine aw_ic1 48 dX12_tell_48 ?_
      refine rw_call0 49 dX12_tell_49 c_X12_traced ckV_RX12_307 cd_X12_traced rfl hW rfl (Nat.le_of_ble_eq_true rfl) ⟨⟨by decide, by decide⟩, by decide, by decide⟩ rfl (fun M hW => ?_)
      refine aw_iload2 52 dX12_tell_52 ?_
      refine aw_ic2 53 dX12_tell_53 ?_
      refine aw_icmp_neN 54 62 (2) (2) dX12_tell_54 (by decide) rfl rfl (by decide) (by decide) (fun h => absurd h (by decide)) (fun _ => ?_)
      refine aw_aload0 57 dX12_tell_57 ?_
      refine aw_ic1 58 dX12_tell_58 ?_
      refine rw_call0 59 dX12_tell_59 c_X12_traced ckV_RX12_307 cd_X12_traced rfl hW rfl (Nat.le_of_ble_eq_true rfl) ⟨⟨by decide, by decide⟩, by decide, by decide⟩ rfl (fun M hW => ?_)
      refine aw_iload2 62 dX12_tell_62 ?_
      refine aw_if_neN 63 75 (2) dX12_tell_63 (by decide) rfl (by decide) (fun _ => ?_) (fun h => absurd h (by decide))
      refine aw_iload2 75 dX12_tell_75 ?_
      refine aw_ic1 76 dX12_tell_76 ?_
      refine aw_icmp_neN 77 93 (2) (1) dX12_tell_77 (by decide) rfl rfl (by decide) (by decide) (fun _ => ?_) (fun h => absurd h (by decide))
      refine aw_ic2 93 dX12_tell_93 ?_
      refine aw_aload0 94 dX12_tell_94 ?_
      refine rw_ga 95 18 dX12_tell_95 ckF_RX12_43_12 (by decide) (by decide) hW ?_
      refine aw_iload1 98 dX12_tell_98 ?_
      refine rw_ld 99 18 (p) dX12_tell_99 hW rfl (show p < 12 by omega) ?_
      refine aw_imul 100 dX12_tell_100 ?_
      refine aw_sipush 101 1000 dX12_tell_101 (by decide) ?_
      refine aw_iadd 104 dX12_tell_104 ?_
      refine aw_iret 105 dX12_tell_105 rfl (Nat.zero_le _) (Nat.zero_le _) ?_
      exact ⟨rfl, hW⟩
    · exact absurd h15 (by rw [hk]; decide)
  · exact absurd hip h5

set_option maxHeartbeats 4000000 in
set_option maxRecDepth 100000 in
theorem n3_X12_show {τ : TT} {p : Nat} (hw : WP τ) (hp : p < nP τ) (hk : τ 16 p < 0) : RD mX12_show rmX12_show [.int (nI p)] τ (some (.int (-3))) (τ) := by
  intro M0 hW0
  refine am_of rfl rfl (ls := [some (.ref 25), some (.int (nI p))]) rfl ?_
  suffices HH : ∀ M, RO τ M0 M → AW mX12_show rmX12_show (fun r' M' => r' = (some (.int (-3))) ∧ RO (τ) M0 M') 0 [some (.ref 25), some (.int (nI p))] [] M 0 0 from HH M0 ⟨hW0, Off.rf M0⟩
  intro M hW
  have hn12 := hw.1.1
  have hwd := (hw.2 p hp).1
  have hhg := (hw.2 p hp).2
  have hip := ir_nI (n := nP τ) (by omega) hp
  refine aw_aload0 0 dX12_show_0 ?_
  refine aw_iload1 1 dX12_show_1 ?_
  refine rw_call1 2 dX12_show_2 (c_X12_noPicture hw) ckV_RX12_146 cd_X12_noPicture rfl hW rfl (Nat.le_of_ble_eq_true rfl) ⟨⟨by decide, by decide⟩, by decide, by decide⟩ rfl (fun M hW => ?_)
  refine aw_ifeq_b 5 10 dX12_show_5 (by decide) (fun h5 => ?_) (fun h5 => ?_)
  · refine aw_aload0 10 dX12_show_10 ?_
    refine aw_iload1 11 dX12_show_11 ?_
    refine rw_call1 12 dX12_show_12 (c_X12_noLine (by omega)) ckV_RX12_227 cd_X12_noLine rfl hW rfl (Nat.le_of_ble_eq_true rfl) ⟨⟨by decide, by decide⟩, by decide, by decide⟩ rfl (fun M hW => ?_)
    refine aw_ifeq_b 15 21 dX12_show_15 (by decide) (fun h15 => ?_) (fun h15 => ?_)
    · exact absurd hk h15
    · refine aw_bipush 18 (-3) dX12_show_18 (by decide) ?_
      refine aw_iret 20 dX12_show_20 rfl (Nat.zero_le _) (Nat.zero_le _) ?_
      exact ⟨rfl, hW⟩
  · exact absurd hip h5

set_option maxHeartbeats 4000000 in
set_option maxRecDepth 100000 in
theorem c2_X12_show {τ : TT} {p : Nat} (hw : WP τ) (hp : p < nP τ) (hk : τ 16 p = 2) : RD mX12_show rmX12_show [.int (nI p)] τ (some (.int 33)) (trc τ 5) := by
  intro M0 hW0
  refine am_of rfl rfl (ls := [some (.ref 25), some (.int (nI p))]) rfl ?_
  suffices HH : ∀ M, RO τ M0 M → AW mX12_show rmX12_show (fun r' M' => r' = (some (.int 33)) ∧ RO (trc τ 5) M0 M') 0 [some (.ref 25), some (.int (nI p))] [] M 0 0 from HH M0 ⟨hW0, Off.rf M0⟩
  intro M hW
  have hn12 := hw.1.1
  have hwd := (hw.2 p hp).1
  have hhg := (hw.2 p hp).2
  have hip := ir_nI (n := nP τ) (by omega) hp
  refine aw_aload0 0 dX12_show_0 ?_
  refine aw_iload1 1 dX12_show_1 ?_
  refine rw_call1 2 dX12_show_2 (c_X12_noPicture hw) ckV_RX12_146 cd_X12_noPicture rfl hW rfl (Nat.le_of_ble_eq_true rfl) ⟨⟨by decide, by decide⟩, by decide, by decide⟩ rfl (fun M hW => ?_)
  refine aw_ifeq_b 5 10 dX12_show_5 (by decide) (fun h5 => ?_) (fun h5 => ?_)
  · refine aw_aload0 10 dX12_show_10 ?_
    refine aw_iload1 11 dX12_show_11 ?_
    refine rw_call1 12 dX12_show_12 (c_X12_noLine (by omega)) ckV_RX12_227 cd_X12_noLine rfl hW rfl (Nat.le_of_ble_eq_true rfl) ⟨⟨by decide, by decide⟩, by decide, by decide⟩ rfl (fun M hW => ?_)
    refine aw_ifeq_b 15 21 dX12_show_15 (by decide) (fun h15 => ?_) (fun h15 => ?_)
    · refine aw_aload0 21 dX12_show_21 ?_
      refine aw_aload0 22 dX12_show_22 ?_
      refine rw_ga 23 16 dX12_show_23 ckF_RX12_37_12 (by decide) (by decide) hW ?_
      refine aw_iload1 26 dX12_show_26 ?_
      refine rw_ld 27 16 (p) dX12_show_27 hW rfl (show p < 12 by omega) ?_
      refine aw_topi hk ?_
      refine aw_ic2 28 dX12_show_28 ?_
      refine aw_icmp_neN 29 36 (2) (2) dX12_show_29 (by decide) rfl rfl (by decide) (by decide) (fun h => absurd h (by decide)) (fun _ => ?_)
      refine aw_ic5 32 dX12_show_32 ?_
      refine aw_goto 33 37 dX12_show_33 (by decide) ?_
      refine rw_call0 37 dX12_show_37 c_X12_traced ckV_RX12_307 cd_X12_traced rfl hW rfl (Nat.le_of_ble_eq_true rfl) ⟨⟨by decide, by decide⟩, by decide, by decide⟩ rfl (fun M hW => ?_)
      refine aw_aload0 40 dX12_show_40 ?_
      refine rw_ga 41 16 dX12_show_41 ckF_RX12_37_12 (by decide) (by decide) hW ?_
      refine aw_iload1 44 dX12_show_44 ?_
      refine rw_ld 45 16 (p) dX12_show_45 hW rfl (show p < 12 by omega) ?_
      refine aw_topi hk ?_
      refine aw_ic2 46 dX12_show_46 ?_
      refine aw_icmp_neN 47 55 (2) (2) dX12_show_47 (by decide) rfl rfl (by decide) (by decide) (fun h => absurd h (by decide)) (fun _ => ?_)
      refine aw_bipush 50 33 dX12_show_50 (by decide) ?_
      refine aw_goto 52 61 dX12_show_52 (by decide) ?_
      refine aw_iret 61 dX12_show_61 rfl (Nat.zero_le _) (Nat.zero_le _) ?_
      exact ⟨rfl, hW⟩
    · exact absurd h15 (by rw [hk]; decide)
  · exact absurd hip h5

set_option maxHeartbeats 4000000 in
set_option maxRecDepth 100000 in
theorem c_X12_show {τ : TT} {p : Nat} (hw : WP τ) (hp : p < nP τ) (hk : ¬ τ 16 p < 0) (hk2 : ¬ τ 16 p = 2) : RD mX12_show rmX12_show [.int (nI p)] τ (some (.int (τ 19 p))) (trc τ 4) := by
  intro M0 hW0
  refine am_of rfl rfl (ls := [some (.ref 25), some (.int (nI p))]) rfl ?_
  suffices HH : ∀ M, RO τ M0 M → AW mX12_show rmX12_show (fun r' M' => r' = (some (.int (τ 19 p))) ∧ RO (trc τ 4) M0 M') 0 [some (.ref 25), some (.int (nI p))] [] M 0 0 from HH M0 ⟨hW0, Off.rf M0⟩
  intro M hW
  have hn12 := hw.1.1
  have hwd := (hw.2 p hp).1
  have hhg := (hw.2 p hp).2
  have hip := ir_nI (n := nP τ) (by omega) hp
  refine aw_aload0 0 dX12_show_0 ?_
  refine aw_iload1 1 dX12_show_1 ?_
  refine rw_call1 2 dX12_show_2 (c_X12_noPicture hw) ckV_RX12_146 cd_X12_noPicture rfl hW rfl (Nat.le_of_ble_eq_true rfl) ⟨⟨by decide, by decide⟩, by decide, by decide⟩ rfl (fun M hW => ?_)
  refine aw_ifeq_b 5 10 dX12_show_5 (by decide) (fun h5 => ?_) (fun h5 => ?_)
  · refine aw_aload0 10 dX12_show_10 ?_
    refine aw_iload1 11 dX12_show_11 ?_
    refine rw_call1 12 dX12_show_12 (c_X12_noLine (by omega)) ckV_RX12_227 cd_X12_noLine rfl hW rfl (Nat.le_of_ble_eq_true rfl) ⟨⟨by decide, by decide⟩, by decide, by decide⟩ rfl (fun M hW => ?_)
    refine aw_ifeq_b 15 21 dX12_show_15 (by decide) (fun h15 => ?_) (fun h15 => ?_)
    · refine aw_aload0 21 dX12_show_21 ?_
      refine aw_aload0 22 dX12_show_22 ?_
      refine rw_ga 23 16 dX12_show_23 ckF_RX12_37_12 (by decide) (by decide) hW ?_
      refine aw_iload1 26 dX12_show_26 ?_
      refine rw_ld 27 16 (p) dX12_show_27 hW rfl (show p < 12 by omega) ?_
      refine aw_ic2 28 dX12_show_28 ?_
      refine aw_icmp_ne 29 36 dX12_show_29 (by decide) (fun h29 => ?_) (fun h29 => ?_)
      · refine aw_ic4 36 dX12_show_36 ?_
        refine rw_call0 37 dX12_show_37 c_X12_traced ckV_RX12_307 cd_X12_traced rfl hW rfl (Nat.le_of_ble_eq_true rfl) ⟨⟨by decide, by decide⟩, by decide, by decide⟩ rfl (fun M hW => ?_)
        refine aw_aload0 40 dX12_show_40 ?_
        refine rw_ga 41 16 dX12_show_41 ckF_RX12_37_12 (by decide) (by decide) hW ?_
        refine aw_iload1 44 dX12_show_44 ?_
        refine rw_ld 45 16 (p) dX12_show_45 hW rfl (show p < 12 by omega) ?_
        refine aw_ic2 46 dX12_show_46 ?_
        refine aw_icmp_ne 47 55 dX12_show_47 (by decide) (fun h47 => ?_) (fun h47 => ?_)
        · refine aw_aload0 55 dX12_show_55 ?_
          refine rw_ga 56 19 dX12_show_56 ckF_RX12_46_12 (by decide) (by decide) hW ?_
          refine aw_iload1 59 dX12_show_59 ?_
          refine rw_ld 60 19 (p) dX12_show_60 hW rfl (show p < 12 by omega) ?_
          refine aw_iret 61 dX12_show_61 rfl (Nat.zero_le _) (Nat.zero_le _) ?_
          exact ⟨rfl, hW⟩
        · exact absurd h47 hk2
      · exact absurd h29 hk2
    · exact absurd h15 hk
  · exact absurd hip h5

def rmX12_as : Room := { frames := 2, cells := 0, slots := 0, locals := 46 }
set_option maxHeartbeats 4000000 in
set_option maxRecDepth 100000 in
theorem n_X12_as {τ : TT} {v w : Int32} (hw : WP τ) (hno : ¬ ir v (nP τ)) : RD mX12_as rmX12_as [.int v, .int w] τ (some (.int (-1))) (tu τ 0 0 0) := by
  intro M0 hW0
  refine am_of rfl rfl (ls := [some (.ref 25), some (.int v), some (.int w)]) rfl ?_
  suffices HH : ∀ M, RO τ M0 M → AW mX12_as rmX12_as (fun r' M' => r' = (some (.int (-1))) ∧ RO (tu τ 0 0 0) M0 M') 0 [some (.ref 25), some (.int v), some (.int w)] [] M 0 0 from HH M0 ⟨hW0, Off.rf M0⟩
  intro M hW
  refine aw_aload0 0 dX12_as_0 ?_
  refine aw_iload1 1 dX12_as_1 ?_
  refine rw_call1 2 dX12_as_2 (c_X12_noPicture hw) ckV_RX12_146 cd_X12_noPicture rfl hW rfl (Nat.le_of_ble_eq_true rfl) ⟨⟨by decide, by decide⟩, by decide, by decide⟩ rfl (fun M hW => ?_)
  refine aw_ifeq_b 5 14 dX12_as_5 (by decide) (fun h5 => ?_) (fun h5 => ?_)
  · exact absurd hno h5
  · refine aw_aload0 8 dX12_as_8 ?_
    refine aw_icm1 9 dX12_as_9 ?_
    refine rw_call1 10 dX12_as_10 c_X12_refused ckV_RX12_114 cd_X12_refused rfl hW rfl (Nat.le_of_ble_eq_true rfl) ⟨⟨by decide, by decide⟩, by decide, by decide⟩ rfl (fun M hW => ?_)
    refine aw_iret 13 dX12_as_13 rfl (Nat.zero_le _) (Nat.zero_le _) ?_
    exact ⟨rfl, hW⟩

def sAs (τ : TT) (p : Nat) (w : Int32) : Int32 := if irg w 0 2 then if τ 16 p < 0 then -3 else if τ 16 p < w then -12 else 1 else -2
def tAs (τ : TT) (p : Nat) (w : Int32) : TT := if irg w 0 2 ∧ ¬ τ 16 p < 0 ∧ τ 16 p < w then tu τ 0 0 2 else tu τ 0 0 0

set_option maxHeartbeats 4000000 in
set_option maxRecDepth 100000 in
theorem c_X12_as {τ : TT} {p : Nat} {w : Int32} (hw : WP τ) (hp : p < nP τ) : RD mX12_as rmX12_as [.int (nI p), .int w] τ (some (.int (sAs τ p w))) (tAs τ p w) := by
  intro M0 hW0
  refine am_of rfl rfl (ls := [some (.ref 25), some (.int (nI p)), some (.int w)]) rfl ?_
  suffices HH : ∀ M, RO τ M0 M → AW mX12_as rmX12_as (fun r' M' => r' = (some (.int (sAs τ p w))) ∧ RO (tAs τ p w) M0 M') 0 [some (.ref 25), some (.int (nI p)), some (.int w)] [] M 0 0 from HH M0 ⟨hW0, Off.rf M0⟩
  intro M hW
  have hn12 := hw.1.1
  have hwd := (hw.2 p hp).1
  have hhg := (hw.2 p hp).2
  have hip := ir_nI (n := nP τ) (by omega) hp
  refine aw_aload0 0 dX12_as_0 ?_
  refine aw_iload1 1 dX12_as_1 ?_
  refine rw_call1 2 dX12_as_2 (c_X12_noPicture hw) ckV_RX12_146 cd_X12_noPicture rfl hW rfl (Nat.le_of_ble_eq_true rfl) ⟨⟨by decide, by decide⟩, by decide, by decide⟩ rfl (fun M hW => ?_)
  refine aw_ifeq_b 5 14 dX12_as_5 (by decide) (fun h5 => ?_) (fun h5 => ?_)
  · refine aw_iload2 14 dX12_as_14 ?_
    refine aw_i2l 15 dX12_as_15 ?_
    refine aw_lc0 16 dX12_as_16 ?_
    refine aw_ldc2 17 (2) dX12_as_17 ckL_RX12_97 ?_
    refine sd_call1 20 dX12_as_20 (c_in2 (0) (2) (by decide) (by decide)) ckS_RX12_99 cd_X12_in rfl (Nat.le_of_ble_eq_true rfl) ⟨⟨by decide, by decide⟩, by decide, by decide⟩ rfl ?_
    refine aw_ifne_b 23 33 dX12_as_23 (by decide) (fun h23 => ?_) (fun h23 => ?_)
    · refine aw_aload0 33 dX12_as_33 ?_
      refine aw_iload1 34 dX12_as_34 ?_
      refine rw_call1 35 dX12_as_35 (c_X12_noLine (by omega)) ckV_RX12_227 cd_X12_noLine rfl hW rfl (Nat.le_of_ble_eq_true rfl) ⟨⟨by decide, by decide⟩, by decide, by decide⟩ rfl (fun M hW => ?_)
      refine aw_ifeq_b 38 48 dX12_as_38 (by decide) (fun h38 => ?_) (fun h38 => ?_)
      · refine aw_aload0 48 dX12_as_48 ?_
        refine rw_ga 49 16 dX12_as_49 ckF_RX12_37_12 (by decide) (by decide) hW ?_
        refine aw_iload1 52 dX12_as_52 ?_
        refine rw_ld 53 16 (p) dX12_as_53 hW rfl (show p < 12 by omega) ?_
        refine aw_iload2 54 dX12_as_54 ?_
        refine aw_icmp_lt 55 66 dX12_as_55 (by decide) (fun h55 => ?_) (fun h55 => ?_)
        · refine aw_aload0 66 dX12_as_66 ?_
          refine aw_ic2 67 dX12_as_67 ?_
          refine rw_call1 68 dX12_as_68 c_X12_failed ckV_RX12_89 cd_X12_failed rfl hW rfl (Nat.le_of_ble_eq_true rfl) ⟨⟨by decide, by decide⟩, by decide, by decide⟩ rfl (fun M hW => ?_)
          refine aw_iret 71 dX12_as_71 rfl (Nat.zero_le _) (Nat.zero_le _) ?_
          refine ⟨?_, ?_⟩
          · unfold sAs
            first
              | (rw [if_neg h23]; done)
              | (rw [if_pos h23, if_pos h38]; done)
              | (rw [if_pos h23, if_neg h38, if_neg h55]; done)
              | (rw [if_pos h23, if_neg h38, if_pos h55]; rfl)
          · unfold tAs
            first
              | (rw [if_neg (nl h23)]; exact hW)
              | (rw [if_neg (nr (nl (nn h38)))]; exact hW)
              | (rw [if_neg (nr (nr h55))]; exact hW)
              | (rw [if_pos (And.intro h23 (And.intro h38 h55))]; exact hW)
        · refine aw_aload0 58 dX12_as_58 ?_
          refine aw_ic1 59 dX12_as_59 ?_
          refine rw_call1 60 dX12_as_60 c_X12_refused ckV_RX12_114 cd_X12_refused rfl hW rfl (Nat.le_of_ble_eq_true rfl) ⟨⟨by decide, by decide⟩, by decide, by decide⟩ rfl (fun M hW => ?_)
          refine aw_goto 63 71 dX12_as_63 (by decide) ?_
          refine aw_iret 71 dX12_as_71 rfl (Nat.zero_le _) (Nat.zero_le _) ?_
          refine ⟨?_, ?_⟩
          · unfold sAs
            first
              | (rw [if_neg h23]; done)
              | (rw [if_pos h23, if_pos h38]; done)
              | (rw [if_pos h23, if_neg h38, if_neg h55]; done)
              | (rw [if_pos h23, if_neg h38, if_pos h55]; rfl)
          · unfold tAs
            first
              | (rw [if_neg (nl h23)]; exact hW)
              | (rw [if_neg (nr (nl (nn h38)))]; exact hW)
              | (rw [if_neg (nr (nr h55))]; exact hW)
              | (rw [if_pos (And.intro h23 (And.intro h38 h55))]; exact hW)
      · refine aw_aload0 41 dX12_as_41 ?_
        refine aw_bipush 42 (-3) dX12_as_42 (by decide) ?_
        refine rw_call1 44 dX12_as_44 c_X12_refused ckV_RX12_114 cd_X12_refused rfl hW rfl (Nat.le_of_ble_eq_true rfl) ⟨⟨by decide, by decide⟩, by decide, by decide⟩ rfl (fun M hW => ?_)
        refine aw_iret 47 dX12_as_47 rfl (Nat.zero_le _) (Nat.zero_le _) ?_
        refine ⟨?_, ?_⟩
        · unfold sAs
          first
            | (rw [if_neg h23]; done)
            | (rw [if_pos h23, if_pos h38]; done)
            | (rw [if_pos h23, if_neg h38, if_neg h55]; done)
            | (rw [if_pos h23, if_neg h38, if_pos h55]; rfl)
        · unfold tAs
          first
            | (rw [if_neg (nl h23)]; exact hW)
            | (rw [if_neg (nr (nl (nn h38)))]; exact hW)
            | (rw [if_neg (nr (nr h55))]; exact hW)
            | (rw [if_pos (And.intro h23 (And.intro h38 h55))]; exact hW)
    · refine aw_aload0 26 dX12_as_26 ?_
      refine aw_bipush 27 (-2) dX12_as_27 (by decide) ?_
      refine rw_call1 29 dX12_as_29 c_X12_refused ckV_RX12_114 cd_X12_refused rfl hW rfl (Nat.le_of_ble_eq_true rfl) ⟨⟨by decide, by decide⟩, by decide, by decide⟩ rfl (fun M hW => ?_)
      refine aw_iret 32 dX12_as_32 rfl (Nat.zero_le _) (Nat.zero_le _) ?_
      refine ⟨?_, ?_⟩
      · unfold sAs
        first
          | (rw [if_neg h23]; done)
          | (rw [if_pos h23, if_pos h38]; done)
          | (rw [if_pos h23, if_neg h38, if_neg h55]; done)
          | (rw [if_pos h23, if_neg h38, if_pos h55]; rfl)
      · unfold tAs
        first
          | (rw [if_neg (nl h23)]; exact hW)
          | (rw [if_neg (nr (nl (nn h38)))]; exact hW)
          | (rw [if_neg (nr (nr h55))]; exact hW)
          | (rw [if_pos (And.intro h23 (And.intro h38 h55))]; exact hW)
  · exact absurd hip h5

def cnt (τ : TT) : Nat → Int32
  | 0 => 0
  | k + 1 => cnt τ k + (if τ 16 k < 0 then 0 else 1)
def sMn (τ : TT) (w : Int32) : Int32 := if w = 0 then nI (nP τ) else if w = 1 then τ 13 0 else if w = 2 then cnt τ (nP τ) else if w = 3 then τ 24 0 else -2

def rmX12_many : Room := { frames := 1, cells := 0, slots := 0, locals := 21 }
set_option maxHeartbeats 4000000 in
set_option maxRecDepth 100000 in
theorem c_X12_many {τ : TT} {w : Int32} (hw : WP τ) : RD mX12_many rmX12_many [.int w] τ (some (.int (sMn τ w))) (τ) := by
  intro M0 hW0
  refine am_of rfl rfl (ls := [some (.ref 25), some (.int w), none, none]) rfl ?_
  suffices HH : ∀ M, RO τ M0 M → AW mX12_many rmX12_many (fun r' M' => r' = (some (.int (sMn τ w))) ∧ RO (τ) M0 M') 0 [some (.ref 25), some (.int w), none, none] [] M 0 0 from HH M0 ⟨hW0, Off.rf M0⟩
  intro M hW
  have hn12 := hw.1.1
  refine aw_ic0 0 dX12_many_0 ?_
  refine aw_istore2 1 dX12_many_1 rfl ?_
  refine aw_ic0 2 dX12_many_2 ?_
  refine aw_istore3 3 dX12_many_3 rfl ?_
  have LP4 : ∀ (dd : Nat) (k : Nat) (M : Mem), nP τ - k = dd → k ≤ nP τ → RO τ M0 M → AW mX12_many rmX12_many (fun r' M' => r' = (some (.int (sMn τ w))) ∧ RO (τ) M0 M') 4 [some (.ref 25), some (.int w), some (.int (cnt τ k)), some (.int (nI k))] [] M 0 0 := by
    intro dd
    induction dd using Nat.strongRecOn with
    | _ dd ih4 =>
      intro k M hdd hk hW
      refine aw_iload3 4 dX12_many_4 ?_
      refine aw_aload0 5 dX12_many_5 ?_
      refine rw_gi 6 1 dX12_many_6 ckF_RX12_105_12 (by decide) rfl hW ?_
      refine aw_topi (w := nI (nP τ)) (hw.1.2) ?_
      refine aw_icmp_geN 9 34 (k) (nP τ) dX12_many_9 (by decide) rfl rfl (by omega) (by omega) (fun h9 => ?_) (fun h9 => ?_)
      · refine aw_iload1 34 dX12_many_34 ?_
        refine aw_if_ne 35 45 dX12_many_35 (by decide) (fun h35 => ?_) (fun h35 => ?_)
        · refine aw_iload1 45 dX12_many_45 ?_
          refine aw_ic1 46 dX12_many_46 ?_
          refine aw_icmp_ne 47 57 dX12_many_47 (by decide) (fun h47 => ?_) (fun h47 => ?_)
          · refine aw_iload1 57 dX12_many_57 ?_
            refine aw_ic2 58 dX12_many_58 ?_
            refine aw_icmp_ne 59 66 dX12_many_59 (by decide) (fun h59 => ?_) (fun h59 => ?_)
            · refine aw_iload1 66 dX12_many_66 ?_
              refine aw_ic3 67 dX12_many_67 ?_
              refine aw_icmp_ne 68 78 dX12_many_68 (by decide) (fun h68 => ?_) (fun h68 => ?_)
              · refine aw_bipush 78 (-2) dX12_many_78 (by decide) ?_
                refine aw_iret 80 dX12_many_80 rfl (Nat.zero_le _) (Nat.zero_le _) ?_
                have he : k = nP τ := by omega
                subst he
                refine ⟨?_, hW⟩
                unfold sMn
                first
                  | (rw [if_pos h35]; done)
                  | (rw [if_neg h35, if_pos h47]; done)
                  | (rw [if_neg h35, if_neg h47, if_pos h59]; done)
                  | (rw [if_neg h35, if_neg h47, if_neg h59, if_pos h68]; done)
                  | (rw [if_neg h35, if_neg h47, if_neg h59, if_neg h68]; done)
              · refine aw_aload0 71 dX12_many_71 ?_
                refine rw_gi 72 24 dX12_many_72 ckF_RX12_291_12 (by decide) rfl hW ?_
                refine aw_goto 75 80 dX12_many_75 (by decide) ?_
                refine aw_iret 80 dX12_many_80 rfl (Nat.zero_le _) (Nat.zero_le _) ?_
                have he : k = nP τ := by omega
                subst he
                refine ⟨?_, hW⟩
                unfold sMn
                first
                  | (rw [if_pos h35]; done)
                  | (rw [if_neg h35, if_pos h47]; done)
                  | (rw [if_neg h35, if_neg h47, if_pos h59]; done)
                  | (rw [if_neg h35, if_neg h47, if_neg h59, if_pos h68]; done)
                  | (rw [if_neg h35, if_neg h47, if_neg h59, if_neg h68]; done)
            · refine aw_iload2 62 dX12_many_62 ?_
              refine aw_goto 63 80 dX12_many_63 (by decide) ?_
              refine aw_iret 80 dX12_many_80 rfl (Nat.zero_le _) (Nat.zero_le _) ?_
              have he : k = nP τ := by omega
              subst he
              refine ⟨?_, hW⟩
              unfold sMn
              first
                | (rw [if_pos h35]; done)
                | (rw [if_neg h35, if_pos h47]; done)
                | (rw [if_neg h35, if_neg h47, if_pos h59]; done)
                | (rw [if_neg h35, if_neg h47, if_neg h59, if_pos h68]; done)
                | (rw [if_neg h35, if_neg h47, if_neg h59, if_neg h68]; done)
          · refine aw_aload0 50 dX12_many_50 ?_
            refine rw_gi 51 13 dX12_many_51 ckF_RX12_211_12 (by decide) rfl hW ?_
            refine aw_goto 54 80 dX12_many_54 (by decide) ?_
            refine aw_iret 80 dX12_many_80 rfl (Nat.zero_le _) (Nat.zero_le _) ?_
            have he : k = nP τ := by omega
            subst he
            refine ⟨?_, hW⟩
            unfold sMn
            first
              | (rw [if_pos h35]; done)
              | (rw [if_neg h35, if_pos h47]; done)
              | (rw [if_neg h35, if_neg h47, if_pos h59]; done)
              | (rw [if_neg h35, if_neg h47, if_neg h59, if_pos h68]; done)
              | (rw [if_neg h35, if_neg h47, if_neg h59, if_neg h68]; done)
        · refine aw_aload0 38 dX12_many_38 ?_
          refine rw_gi 39 1 dX12_many_39 ckF_RX12_105_12 (by decide) rfl hW ?_
          refine aw_topi (w := nI (nP τ)) (hw.1.2) ?_
          refine aw_goto 42 80 dX12_many_42 (by decide) ?_
          refine aw_iret 80 dX12_many_80 rfl (Nat.zero_le _) (Nat.zero_le _) ?_
          have he : k = nP τ := by omega
          subst he
          refine ⟨?_, hW⟩
          unfold sMn
          first
            | (rw [if_pos h35]; done)
            | (rw [if_neg h35, if_pos h47]; done)
            | (rw [if_neg h35, if_neg h47, if_pos h59]; done)
            | (rw [if_neg h35, if_neg h47, if_neg h59, if_pos h68]; done)
            | (rw [if_neg h35, if_neg h47, if_neg h59, if_neg h68]; done)
      · refine aw_iload2 12 dX12_many_12 ?_
        refine aw_aload0 13 dX12_many_13 ?_
        refine aw_iload3 14 dX12_many_14 ?_
        refine rw_call1 15 dX12_many_15 (c_X12_noLine (p := k) (by omega)) ckV_RX12_227 cd_X12_noLine rfl hW rfl (Nat.le_of_ble_eq_true rfl) ⟨⟨by decide, by decide⟩, by decide, by decide⟩ rfl (fun M hW => ?_)
        refine aw_ifeq_b 18 25 dX12_many_18 (by decide) (fun h18 => ?_) (fun h18 => ?_)
        · refine aw_ic1 25 dX12_many_25 ?_
          refine aw_iadd 26 dX12_many_26 ?_
          refine aw_topi (show _ = cnt τ (k + 1) by
            show _ = cnt τ k + ite _ _ _
            first
              | rw [if_pos h18]
              | rw [if_neg h18]) ?_
          refine aw_istore2 27 dX12_many_27 rfl ?_
          refine aw_iinc3 28 (nI (k + 1)) dX12_many_28 (nI_1 _) rfl ?_
          refine aw_goto 31 4 dX12_many_31 (by decide) ?_
          exact ih4 _ (by omega) (k + 1) M rfl (by omega) hW
        · refine aw_ic0 21 dX12_many_21 ?_
          refine aw_goto 22 26 dX12_many_22 (by decide) ?_
          refine aw_iadd 26 dX12_many_26 ?_
          refine aw_topi (show _ = cnt τ (k + 1) by
            show _ = cnt τ k + ite _ _ _
            first
              | rw [if_pos h18]
              | rw [if_neg h18]) ?_
          refine aw_istore2 27 dX12_many_27 rfl ?_
          refine aw_iinc3 28 (nI (k + 1)) dX12_many_28 (nI_1 _) rfl ?_
          refine aw_goto 31 4 dX12_many_31 (by decide) ?_
          exact ih4 _ (by omega) (k + 1) M rfl (by omega) hW
  exact LP4 _ 0 M rfl (Nat.zero_le _) hW

def rmX12_lose : Room := { frames := 2, cells := 0, slots := 0, locals := 45 }
set_option maxHeartbeats 4000000 in
set_option maxRecDepth 100000 in
theorem n_X12_lose {τ : TT} {v : Int32} (hno : ¬ irg v 0 3) : RD mX12_lose rmX12_lose [.int v] τ (some (.int (-1))) (τ) := by
  intro M0 hW0
  refine am_of rfl rfl (ls := [some (.ref 25), some (.int v), none]) rfl ?_
  suffices HH : ∀ M, RO τ M0 M → AW mX12_lose rmX12_lose (fun r' M' => r' = (some (.int (-1))) ∧ RO (τ) M0 M') 0 [some (.ref 25), some (.int v), none] [] M 0 0 from HH M0 ⟨hW0, Off.rf M0⟩
  intro M hW
  refine aw_iload1 0 dX12_lose_0 ?_
  refine sd_call1 1 dX12_lose_1 (c_X12_noSheet) ckS_RX12_110 cd_X12_noSheet rfl (Nat.le_of_ble_eq_true rfl) ⟨⟨by decide, by decide⟩, by decide, by decide⟩ rfl ?_
  refine aw_ifeq_b 4 9 dX12_lose_4 (by decide) (fun h4 => ?_) (fun h4 => ?_)
  · exact absurd hno h4
  · refine aw_icm1 7 dX12_lose_7 ?_
    refine aw_iret 8 dX12_lose_8 rfl (Nat.zero_le _) (Nat.zero_le _) ?_
    exact ⟨rfl, hW⟩

set_option maxHeartbeats 4000000 in
set_option maxRecDepth 100000 in
theorem c_X12_lose {τ : TT} {k : Nat} (hk : k < 4) : RD mX12_lose rmX12_lose [.int (nI k)] τ (some (.int (if τ 28 k < 0 then 0 else 1))) (tu τ 28 k (-1)) := by
  intro M0 hW0
  refine am_of rfl rfl (ls := [some (.ref 25), some (.int (nI k)), none]) rfl ?_
  suffices HH : ∀ M, RO τ M0 M → AW mX12_lose rmX12_lose (fun r' M' => r' = (some (.int (if τ 28 k < 0 then 0 else 1))) ∧ RO (tu τ 28 k (-1)) M0 M') 0 [some (.ref 25), some (.int (nI k)), none] [] M 0 0 from HH M0 ⟨hW0, Off.rf M0⟩
  intro M hW
  have hik : irg (nI k) 0 3 := irg_nI (b := 3) (by decide) (by omega)
  refine aw_iload1 0 dX12_lose_0 ?_
  refine sd_call1 1 dX12_lose_1 (c_X12_noSheet) ckS_RX12_110 cd_X12_noSheet rfl (Nat.le_of_ble_eq_true rfl) ⟨⟨by decide, by decide⟩, by decide, by decide⟩ rfl ?_
  refine aw_ifeq_b 4 9 dX12_lose_4 (by decide) (fun h4 => ?_) (fun h4 => ?_)
  · refine aw_aload0 9 dX12_lose_9 ?_
    refine rw_ga 10 28 dX12_lose_10 ckF_RX12_67_12 (by decide) (by decide) hW ?_
    refine aw_iload1 13 dX12_lose_13 ?_
    refine rw_ld 14 28 (k) dX12_lose_14 hW rfl (show k < 4 by omega) ?_
    refine aw_if_ge 15 22 dX12_lose_15 (by decide) (fun h15 => ?_) (fun h15 => ?_)
    · refine aw_ic1 22 dX12_lose_22 ?_
      refine aw_istore2 23 dX12_lose_23 rfl ?_
      refine aw_aload0 24 dX12_lose_24 ?_
      refine rw_ga 25 28 dX12_lose_25 ckF_RX12_67_12 (by decide) (by decide) hW ?_
      refine aw_iload1 28 dX12_lose_28 ?_
      refine aw_icm1 29 dX12_lose_29 ?_
      refine rw_st 30 28 (k) dX12_lose_30 hW rfl (show k < 4 by omega) (fun M hW => ?_)
      refine aw_iload2 31 dX12_lose_31 ?_
      refine aw_iret 32 dX12_lose_32 rfl (Nat.zero_le _) (Nat.zero_le _) ?_
      exact ⟨by first | (rw [if_pos (Int32.not_le.mp h15)]; done) | (rw [if_neg (Int32.not_lt.mpr h15)]; done), hW⟩
    · refine aw_ic0 18 dX12_lose_18 ?_
      refine aw_goto 19 23 dX12_lose_19 (by decide) ?_
      refine aw_istore2 23 dX12_lose_23 rfl ?_
      refine aw_aload0 24 dX12_lose_24 ?_
      refine rw_ga 25 28 dX12_lose_25 ckF_RX12_67_12 (by decide) (by decide) hW ?_
      refine aw_iload1 28 dX12_lose_28 ?_
      refine aw_icm1 29 dX12_lose_29 ?_
      refine rw_st 30 28 (k) dX12_lose_30 hW rfl (show k < 4 by omega) (fun M hW => ?_)
      refine aw_iload2 31 dX12_lose_31 ?_
      refine aw_iret 32 dX12_lose_32 rfl (Nat.zero_le _) (Nat.zero_le _) ?_
      exact ⟨by first | (rw [if_pos (Int32.not_le.mp h15)]; done) | (rw [if_neg (Int32.not_lt.mpr h15)]; done), hW⟩
  · exact absurd hik h4

def rmX12_sheet : Room := { frames := 2, cells := 0, slots := 0, locals := 45 }
set_option maxHeartbeats 4000000 in
set_option maxRecDepth 100000 in
theorem n_X12_sheet {τ : TT} {v w u : Int32} (hno : ¬ irg v 0 3) : RD mX12_sheet rmX12_sheet [.int v, .int w, .int u] τ (some (.int (-1))) (tu τ 0 0 0) := by
  intro M0 hW0
  refine am_of rfl rfl (ls := [some (.ref 25), some (.int v), some (.int w), some (.int u), none]) rfl ?_
  suffices HH : ∀ M, RO τ M0 M → AW mX12_sheet rmX12_sheet (fun r' M' => r' = (some (.int (-1))) ∧ RO (tu τ 0 0 0) M0 M') 0 [some (.ref 25), some (.int v), some (.int w), some (.int u), none] [] M 0 0 from HH M0 ⟨hW0, Off.rf M0⟩
  intro M hW
  refine aw_iload1 0 dX12_sheet_0 ?_
  refine sd_call1 1 dX12_sheet_1 (c_X12_noSheet) ckS_RX12_110 cd_X12_noSheet rfl (Nat.le_of_ble_eq_true rfl) ⟨⟨by decide, by decide⟩, by decide, by decide⟩ rfl ?_
  refine aw_ifeq_b 4 13 dX12_sheet_4 (by decide) (fun h4 => ?_) (fun h4 => ?_)
  · exact absurd hno h4
  · refine aw_aload0 7 dX12_sheet_7 ?_
    refine aw_icm1 8 dX12_sheet_8 ?_
    refine rw_call1 9 dX12_sheet_9 c_X12_refused ckV_RX12_114 cd_X12_refused rfl hW rfl (Nat.le_of_ble_eq_true rfl) ⟨⟨by decide, by decide⟩, by decide, by decide⟩ rfl (fun M hW => ?_)
    refine aw_iret 12 dX12_sheet_12 rfl (Nat.zero_le _) (Nat.zero_le _) ?_
    exact ⟨rfl, hW⟩

set_option maxHeartbeats 4000000 in
set_option maxRecDepth 100000 in
theorem n2_X12_sheet {τ : TT} {k : Nat} {w u : Int32} (hk : k < 4) (hno : ¬ irg w 0 2 ∨ 60 < u) : RD mX12_sheet rmX12_sheet [.int (nI k), .int w, .int u] τ (some (.int (-2))) (tu τ 0 0 0) := by
  intro M0 hW0
  refine am_of rfl rfl (ls := [some (.ref 25), some (.int (nI k)), some (.int w), some (.int u), none]) rfl ?_
  suffices HH : ∀ M, RO τ M0 M → AW mX12_sheet rmX12_sheet (fun r' M' => r' = (some (.int (-2))) ∧ RO (tu τ 0 0 0) M0 M') 0 [some (.ref 25), some (.int (nI k)), some (.int w), some (.int u), none] [] M 0 0 from HH M0 ⟨hW0, Off.rf M0⟩
  intro M hW
  have hik : irg (nI k) 0 3 := irg_nI (b := 3) (by decide) (by omega)
  refine aw_iload1 0 dX12_sheet_0 ?_
  refine sd_call1 1 dX12_sheet_1 (c_X12_noSheet) ckS_RX12_110 cd_X12_noSheet rfl (Nat.le_of_ble_eq_true rfl) ⟨⟨by decide, by decide⟩, by decide, by decide⟩ rfl ?_
  refine aw_ifeq_b 4 13 dX12_sheet_4 (by decide) (fun h4 => ?_) (fun h4 => ?_)
  · refine aw_iload2 13 dX12_sheet_13 ?_
    refine sd_call1 14 dX12_sheet_14 (c_X12_isLane) ckS_RX12_119 cd_X12_isLane rfl (Nat.le_of_ble_eq_true rfl) ⟨⟨by decide, by decide⟩, by decide, by decide⟩ rfl ?_
    refine aw_ifeq_b 17 26 dX12_sheet_17 (by decide) (fun h17 => ?_) (fun h17 => ?_)
    · refine aw_aload0 26 dX12_sheet_26 ?_
      refine aw_bipush 27 (-2) dX12_sheet_27 (by decide) ?_
      refine rw_call1 29 dX12_sheet_29 c_X12_refused ckV_RX12_114 cd_X12_refused rfl hW rfl (Nat.le_of_ble_eq_true rfl) ⟨⟨by decide, by decide⟩, by decide, by decide⟩ rfl (fun M hW => ?_)
      refine aw_iret 32 dX12_sheet_32 rfl (Nat.zero_le _) (Nat.zero_le _) ?_
      exact ⟨rfl, hW⟩
    · refine aw_iload3 20 dX12_sheet_20 ?_
      refine aw_bipush 21 60 dX12_sheet_21 (by decide) ?_
      refine aw_icmp_le 23 33 dX12_sheet_23 (by decide) (fun h23 => ?_) (fun h23 => ?_)
      · exact absurd hno (fun q => q.elim (fun z => z h17) (fun z => absurd h23 (Int32.not_le.mpr z)))
      · refine aw_aload0 26 dX12_sheet_26 ?_
        refine aw_bipush 27 (-2) dX12_sheet_27 (by decide) ?_
        refine rw_call1 29 dX12_sheet_29 c_X12_refused ckV_RX12_114 cd_X12_refused rfl hW rfl (Nat.le_of_ble_eq_true rfl) ⟨⟨by decide, by decide⟩, by decide, by decide⟩ rfl (fun M hW => ?_)
        refine aw_iret 32 dX12_sheet_32 rfl (Nat.zero_le _) (Nat.zero_le _) ?_
        exact ⟨rfl, hW⟩
  · exact absurd hik h4

set_option maxHeartbeats 4000000 in
set_option maxRecDepth 100000 in
theorem n3_X12_sheet {τ : TT} {k : Nat} {w u : Int32} (hk : k < 4) (hok : irg w 0 2) (hu : u < 0) : RD mX12_sheet rmX12_sheet [.int (nI k), .int w, .int u] τ (some (.int (-14))) (tu τ 0 0 4) := by
  intro M0 hW0
  refine am_of rfl rfl (ls := [some (.ref 25), some (.int (nI k)), some (.int w), some (.int u), none]) rfl ?_
  suffices HH : ∀ M, RO τ M0 M → AW mX12_sheet rmX12_sheet (fun r' M' => r' = (some (.int (-14))) ∧ RO (tu τ 0 0 4) M0 M') 0 [some (.ref 25), some (.int (nI k)), some (.int w), some (.int u), none] [] M 0 0 from HH M0 ⟨hW0, Off.rf M0⟩
  intro M hW
  have hik : irg (nI k) 0 3 := irg_nI (b := 3) (by decide) (by omega)
  have hu60 : u ≤ 60 := Int32.le_of_lt (Int32.lt_trans hu (by decide))
  refine aw_iload1 0 dX12_sheet_0 ?_
  refine sd_call1 1 dX12_sheet_1 (c_X12_noSheet) ckS_RX12_110 cd_X12_noSheet rfl (Nat.le_of_ble_eq_true rfl) ⟨⟨by decide, by decide⟩, by decide, by decide⟩ rfl ?_
  refine aw_ifeq_b 4 13 dX12_sheet_4 (by decide) (fun h4 => ?_) (fun h4 => ?_)
  · refine aw_iload2 13 dX12_sheet_13 ?_
    refine sd_call1 14 dX12_sheet_14 (c_X12_isLane) ckS_RX12_119 cd_X12_isLane rfl (Nat.le_of_ble_eq_true rfl) ⟨⟨by decide, by decide⟩, by decide, by decide⟩ rfl ?_
    refine aw_ifeq_b 17 26 dX12_sheet_17 (by decide) (fun h17 => ?_) (fun h17 => ?_)
    · first | exact absurd hok h17 | exact absurd hu60 h23
    · refine aw_iload3 20 dX12_sheet_20 ?_
      refine aw_bipush 21 60 dX12_sheet_21 (by decide) ?_
      refine aw_icmp_le 23 33 dX12_sheet_23 (by decide) (fun h23 => ?_) (fun h23 => ?_)
      · refine aw_iload3 33 dX12_sheet_33 ?_
        refine aw_if_ge 34 43 dX12_sheet_34 (by decide) (fun h34 => ?_) (fun h34 => ?_)
        · exact absurd hu (Int32.not_lt.mpr h34)
        · refine aw_aload0 37 dX12_sheet_37 ?_
          refine aw_ic4 38 dX12_sheet_38 ?_
          refine rw_call1 39 dX12_sheet_39 c_X12_failed ckV_RX12_89 cd_X12_failed rfl hW rfl (Nat.le_of_ble_eq_true rfl) ⟨⟨by decide, by decide⟩, by decide, by decide⟩ rfl (fun M hW => ?_)
          refine aw_iret 42 dX12_sheet_42 rfl (Nat.zero_le _) (Nat.zero_le _) ?_
          exact ⟨rfl, hW⟩
      · first | exact absurd hok h17 | exact absurd hu60 h23
  · exact absurd hik h4

def tSh (τ : TT) (k m : Nat) (w : Int32) : TT := tu (ov (tu (tu τ 28 k (nI m)) 29 k w) 30 (60 * k) (60 * k + m) (fun _ => 0)) 0 0 0

set_option maxHeartbeats 4000000 in
set_option maxRecDepth 100000 in
theorem c_X12_sheet {τ : TT} {k m : Nat} {w : Int32} (hk : k < 4) (hok : irg w 0 2) (hm : m ≤ 60) : RD mX12_sheet rmX12_sheet [.int (nI k), .int w, .int (nI m)] τ (some (.int 1)) (tSh τ k m w) := by
  intro M0 hW0
  refine am_of rfl rfl (ls := [some (.ref 25), some (.int (nI k)), some (.int w), some (.int (nI m)), none]) rfl ?_
  suffices HH : ∀ M, RO τ M0 M → AW mX12_sheet rmX12_sheet (fun r' M' => r' = (some (.int 1)) ∧ RO (tSh τ k m w) M0 M') 0 [some (.ref 25), some (.int (nI k)), some (.int w), some (.int (nI m)), none] [] M 0 0 from HH M0 ⟨hW0, Off.rf M0⟩
  intro M hW
  have hik : irg (nI k) 0 3 := irg_nI (b := 3) (by decide) (by omega)
  refine aw_iload1 0 dX12_sheet_0 ?_
  refine sd_call1 1 dX12_sheet_1 (c_X12_noSheet) ckS_RX12_110 cd_X12_noSheet rfl (Nat.le_of_ble_eq_true rfl) ⟨⟨by decide, by decide⟩, by decide, by decide⟩ rfl ?_
  refine aw_ifeq_b 4 13 dX12_sheet_4 (by decide) (fun h4 => ?_) (fun h4 => ?_)
  · refine aw_iload2 13 dX12_sheet_13 ?_
    refine sd_call1 14 dX12_sheet_14 (c_X12_isLane) ckS_RX12_119 cd_X12_isLane rfl (Nat.le_of_ble_eq_true rfl) ⟨⟨by decide, by decide⟩, by decide, by decide⟩ rfl ?_
    refine aw_ifeq_b 17 26 dX12_sheet_17 (by decide) (fun h17 => ?_) (fun h17 => ?_)
    · first | exact absurd hok h17 | (exfalso; omega)
    · refine aw_iload3 20 dX12_sheet_20 ?_
      refine aw_bipush 21 60 dX12_sheet_21 (by decide) ?_
      refine aw_icmp_leN 23 33 (m) (60) dX12_sheet_23 (by decide) rfl rfl (by omega) (by omega) (fun h23 => ?_) (fun h23 => ?_)
      · refine aw_iload3 33 dX12_sheet_33 ?_
        refine aw_if_geN 34 43 (m) dX12_sheet_34 (by decide) rfl (by omega) ?_
        refine aw_aload0 43 dX12_sheet_43 ?_
        refine rw_ga 44 28 dX12_sheet_44 ckF_RX12_67_12 (by decide) (by decide) hW ?_
        refine aw_iload1 47 dX12_sheet_47 ?_
        refine aw_iload3 48 dX12_sheet_48 ?_
        refine rw_st 49 28 (k) dX12_sheet_49 hW rfl (show k < 4 by omega) (fun M hW => ?_)
        refine aw_aload0 50 dX12_sheet_50 ?_
        refine rw_ga 51 29 dX12_sheet_51 ckF_RX12_70_12 (by decide) (by decide) hW ?_
        refine aw_iload1 54 dX12_sheet_54 ?_
        refine aw_iload2 55 dX12_sheet_55 ?_
        refine rw_st 56 29 (k) dX12_sheet_56 hW rfl (show k < 4 by omega) (fun M hW => ?_)
        refine aw_ic0 57 dX12_sheet_57 ?_
        refine aw_istore4 58 dX12_sheet_58 rfl ?_
        have LP60 : ∀ (dd : Nat) (j : Nat) (M : Mem), m - j = dd → j ≤ m → RO (ov (tu (tu τ 28 k (nI m)) 29 k w) 30 (60 * k) (60 * k + j) (fun _ => 0)) M0 M → AW mX12_sheet rmX12_sheet (fun r' M' => r' = (some (.int 1)) ∧ RO (tSh τ k m w) M0 M') 60 [some (.ref 25), some (.int (nI k)), some (.int w), some (.int (nI m)), some (.int (nI j))] [] M 0 0 := by
          intro dd
          induction dd using Nat.strongRecOn with
          | _ dd ih60 =>
            intro j M hdd hj hW
            refine aw_iload4 60 dX12_sheet_60 ?_
            refine aw_iload3 62 dX12_sheet_62 ?_
            refine aw_icmp_geN 63 85 (j) (m) dX12_sheet_63 (by decide) rfl rfl (by omega) (by omega) (fun h63 => ?_) (fun h63 => ?_)
            · refine aw_aload0 85 dX12_sheet_85 ?_
              refine aw_ic1 86 dX12_sheet_86 ?_
              refine rw_call1 87 dX12_sheet_87 c_X12_refused ckV_RX12_114 cd_X12_refused rfl hW rfl (Nat.le_of_ble_eq_true rfl) ⟨⟨by decide, by decide⟩, by decide, by decide⟩ rfl (fun M hW => ?_)
              refine aw_iret 90 dX12_sheet_90 rfl (Nat.zero_le _) (Nat.zero_le _) ?_
              have he : j = m := by omega
              subst he
              exact ⟨rfl, hW⟩
            · refine aw_aload0 66 dX12_sheet_66 ?_
              refine rw_ga 67 30 dX12_sheet_67 ckF_RX12_73_12 (by decide) (by decide) hW ?_
              refine aw_bipush 70 60 dX12_sheet_70 (by decide) ?_
              refine aw_iload1 72 dX12_sheet_72 ?_
              refine aw_imulN 73 (60) (k) dX12_sheet_73 rfl rfl ?_
              refine aw_iload4 74 dX12_sheet_74 ?_
              refine aw_iaddN 76 (60 * k) (j) dX12_sheet_76 rfl rfl ?_
              refine aw_ic0 77 dX12_sheet_77 ?_
              refine rw_st 78 30 ((60 * k) + j) dX12_sheet_78 hW rfl (show (60 * k) + j < 240 by omega) (fun M hW => ?_)
              replace hW := ro_eq hW (ov_up (f := fun _ => 0) (by omega) rfl)
              refine aw_iinc4 79 (nI (j + 1)) dX12_sheet_79 (nI_1 _) rfl ?_
              refine aw_goto 82 60 dX12_sheet_82 (by decide) ?_
              exact ih60 _ (by omega) (j + 1) M rfl (by omega) hW
        exact LP60 _ 0 M rfl (Nat.zero_le _) (ro_eq hW ov_nil.symm)
      · first | exact absurd hok h17 | (exfalso; omega)
  · exact absurd hik h4

def rmX12_put : Room := { frames := 2, cells := 0, slots := 0, locals := 47 }
set_option maxHeartbeats 4000000 in
set_option maxRecDepth 100000 in
theorem n_X12_put {τ : TT} {v w u : Int32} (hno : ¬ irg v 0 3) : RD mX12_put rmX12_put [.int v, .int w, .int u] τ (some (.int (-1))) (tu τ 0 0 0) := by
  intro M0 hW0
  refine am_of rfl rfl (ls := [some (.ref 25), some (.int v), some (.int w), some (.int u)]) rfl ?_
  suffices HH : ∀ M, RO τ M0 M → AW mX12_put rmX12_put (fun r' M' => r' = (some (.int (-1))) ∧ RO (tu τ 0 0 0) M0 M') 0 [some (.ref 25), some (.int v), some (.int w), some (.int u)] [] M 0 0 from HH M0 ⟨hW0, Off.rf M0⟩
  intro M hW
  refine aw_iload1 0 dX12_put_0 ?_
  refine sd_call1 1 dX12_put_1 (c_X12_noSheet) ckS_RX12_110 cd_X12_noSheet rfl (Nat.le_of_ble_eq_true rfl) ⟨⟨by decide, by decide⟩, by decide, by decide⟩ rfl ?_
  refine aw_ifeq_b 4 13 dX12_put_4 (by decide) (fun h4 => ?_) (fun h4 => ?_)
  · exact absurd hno h4
  · refine aw_aload0 7 dX12_put_7 ?_
    refine aw_icm1 8 dX12_put_8 ?_
    refine rw_call1 9 dX12_put_9 c_X12_refused ckV_RX12_114 cd_X12_refused rfl hW rfl (Nat.le_of_ble_eq_true rfl) ⟨⟨by decide, by decide⟩, by decide, by decide⟩ rfl (fun M hW => ?_)
    refine aw_iret 12 dX12_put_12 rfl (Nat.zero_le _) (Nat.zero_le _) ?_
    exact ⟨rfl, hW⟩

set_option maxHeartbeats 4000000 in
set_option maxRecDepth 100000 in
theorem n2_X12_put {τ : TT} {k : Nat} {i v : Int32} (hs : WS τ) (hk : k < 4) (hc : 0 < ncl τ k i) : RD mX12_put rmX12_put [.int (nI k), .int i, .int v] τ (some (.int (-10 - ncl τ k i))) (tu τ 0 0 (ncl τ k i)) := by
  intro M0 hW0
  refine am_of rfl rfl (ls := [some (.ref 25), some (.int (nI k)), some (.int i), some (.int v)]) rfl ?_
  suffices HH : ∀ M, RO τ M0 M → AW mX12_put rmX12_put (fun r' M' => r' = (some (.int (-10 - ncl τ k i))) ∧ RO (tu τ 0 0 (ncl τ k i)) M0 M') 0 [some (.ref 25), some (.int (nI k)), some (.int i), some (.int v)] [] M 0 0 from HH M0 ⟨hW0, Off.rf M0⟩
  intro M hW
  have hik : irg (nI k) 0 3 := irg_nI (b := 3) (by decide) (by omega)
  refine aw_iload1 0 dX12_put_0 ?_
  refine sd_call1 1 dX12_put_1 (c_X12_noSheet) ckS_RX12_110 cd_X12_noSheet rfl (Nat.le_of_ble_eq_true rfl) ⟨⟨by decide, by decide⟩, by decide, by decide⟩ rfl ?_
  refine aw_ifeq_b 4 13 dX12_put_4 (by decide) (fun h4 => ?_) (fun h4 => ?_)
  · refine aw_aload0 13 dX12_put_13 ?_
    refine aw_iload1 14 dX12_put_14 ?_
    refine aw_iload2 15 dX12_put_15 ?_
    refine rw_call1 16 dX12_put_16 (c_X12_noCell hs hk) ckV_RX12_297 cd_X12_noCell rfl hW rfl (Nat.le_of_ble_eq_true rfl) ⟨⟨by decide, by decide⟩, by decide, by decide⟩ rfl (fun M hW => ?_)
    refine aw_if_le 19 33 dX12_put_19 (by decide) (fun h19 => ?_) (fun h19 => ?_)
    · exact absurd hc (Int32.not_lt.mpr h19)
    · refine aw_aload0 22 dX12_put_22 ?_
      refine aw_aload0 23 dX12_put_23 ?_
      refine aw_iload1 24 dX12_put_24 ?_
      refine aw_iload2 25 dX12_put_25 ?_
      refine rw_call1 26 dX12_put_26 (c_X12_noCell hs hk) ckV_RX12_297 cd_X12_noCell rfl hW rfl (Nat.le_of_ble_eq_true rfl) ⟨⟨by decide, by decide⟩, by decide, by decide⟩ rfl (fun M hW => ?_)
      refine rw_call1 29 dX12_put_29 c_X12_failed ckV_RX12_89 cd_X12_failed rfl hW rfl (Nat.le_of_ble_eq_true rfl) ⟨⟨by decide, by decide⟩, by decide, by decide⟩ rfl (fun M hW => ?_)
      refine aw_iret 32 dX12_put_32 rfl (Nat.zero_le _) (Nat.zero_le _) ?_
      exact ⟨rfl, hW⟩
  · exact absurd hik h4

def nrw (l v : Int32) : Int32 := if l = 0 then v.toInt8.toInt32 else if l = 1 then v.toInt16.toInt32 else v
theorem ncl_ok {τ : TT} {k : Nat} {i : Int32} (hs : WS τ) (hk : k < 4) (h : ¬ 0 < ncl τ k i) : ¬ τ 28 k < 0 ∧ ir i (ssz τ k) := by
  unfold ncl at h
  by_cases h1 : τ 28 k < 0
  · rw [if_pos h1] at h; exact absurd (by decide) h
  · rw [if_neg h1] at h
    by_cases h2 : ir i (ssz τ k)
    · exact ⟨h1, h2⟩
    · rw [if_neg h2] at h; exact absurd (by decide) h
theorem WS.ok {τ : TT} {k : Nat} (hs : WS τ) (hk : k < 4) (h : ¬ τ 28 k < 0) : ssz τ k ≤ 60 ∧ τ 28 k = nI (ssz τ k) := (hs k hk).resolve_left (fun q => h (by rw [q]; decide))
theorem ncl_0 {τ : TT} {k j : Nat} (hs : WS τ) (hk : k < 4) (h : ¬ τ 28 k < 0) (hj : j < ssz τ k) : ncl τ k (nI j) = 0 := by
  have := hs.ok hk h
  unfold ncl
  rw [if_neg h, if_pos (ir_nI (by omega) hj)]

set_option maxHeartbeats 4000000 in
set_option maxRecDepth 100000 in
theorem c_X12_put {τ : TT} {k j : Nat} {v : Int32} (hs : WS τ) (hk : k < 4) (h0 : ¬ τ 28 k < 0) (hj : j < ssz τ k) : RD mX12_put rmX12_put [.int (nI k), .int (nI j), .int v] τ (some (.int 1)) (tu (tu τ 30 (60 * k + j) (nrw (τ 29 k) v)) 0 0 0) := by
  intro M0 hW0
  refine am_of rfl rfl (ls := [some (.ref 25), some (.int (nI k)), some (.int (nI j)), some (.int v)]) rfl ?_
  suffices HH : ∀ M, RO τ M0 M → AW mX12_put rmX12_put (fun r' M' => r' = (some (.int 1)) ∧ RO (tu (tu τ 30 (60 * k + j) (nrw (τ 29 k) v)) 0 0 0) M0 M') 0 [some (.ref 25), some (.int (nI k)), some (.int (nI j)), some (.int v)] [] M 0 0 from HH M0 ⟨hW0, Off.rf M0⟩
  intro M hW
  have hik : irg (nI k) 0 3 := irg_nI (b := 3) (by decide) (by omega)
  have hsz := hs.ok hk h0
  have hnc := ncl_0 hs hk h0 hj
  refine aw_iload1 0 dX12_put_0 ?_
  refine sd_call1 1 dX12_put_1 (c_X12_noSheet) ckS_RX12_110 cd_X12_noSheet rfl (Nat.le_of_ble_eq_true rfl) ⟨⟨by decide, by decide⟩, by decide, by decide⟩ rfl ?_
  refine aw_ifeq_b 4 13 dX12_put_4 (by decide) (fun h4 => ?_) (fun h4 => ?_)
  · refine aw_aload0 13 dX12_put_13 ?_
    refine aw_iload1 14 dX12_put_14 ?_
    refine aw_iload2 15 dX12_put_15 ?_
    refine rw_call1 16 dX12_put_16 (c_X12_noCell hs hk) ckV_RX12_297 cd_X12_noCell rfl hW rfl (Nat.le_of_ble_eq_true rfl) ⟨⟨by decide, by decide⟩, by decide, by decide⟩ rfl (fun M hW => ?_)
    refine aw_if_le 19 33 dX12_put_19 (by decide) (fun h19 => ?_) (fun h19 => ?_)
    · refine aw_aload0 33 dX12_put_33 ?_
      refine rw_ga 34 30 dX12_put_34 ckF_RX12_73_12 (by decide) (by decide) hW ?_
      refine aw_bipush 37 60 dX12_put_37 (by decide) ?_
      refine aw_iload1 39 dX12_put_39 ?_
      refine aw_imulN 40 (60) (k) dX12_put_40 rfl rfl ?_
      refine aw_iload2 41 dX12_put_41 ?_
      refine aw_iaddN 42 (60 * k) (j) dX12_put_42 rfl rfl ?_
      refine aw_aload0 43 dX12_put_43 ?_
      refine rw_ga 44 29 dX12_put_44 ckF_RX12_70_12 (by decide) (by decide) hW ?_
      refine aw_iload1 47 dX12_put_47 ?_
      refine rw_ld 48 29 (k) dX12_put_48 hW rfl (show k < 4 by omega) ?_
      refine aw_if_ne 49 57 dX12_put_49 (by decide) (fun h49 => ?_) (fun h49 => ?_)
      · refine aw_aload0 57 dX12_put_57 ?_
        refine rw_ga 58 29 dX12_put_58 ckF_RX12_70_12 (by decide) (by decide) hW ?_
        refine aw_iload1 61 dX12_put_61 ?_
        refine rw_ld 62 29 (k) dX12_put_62 hW rfl (show k < 4 by omega) ?_
        refine aw_ic1 63 dX12_put_63 ?_
        refine aw_icmp_ne 64 72 dX12_put_64 (by decide) (fun h64 => ?_) (fun h64 => ?_)
        · refine aw_iload3 72 dX12_put_72 ?_
          refine rw_st 73 30 ((60 * k) + j) dX12_put_73 hW rfl (show (60 * k) + j < 240 by omega) (fun M hW => ?_)
          replace hW := ro_eq hW (show tu τ 30 (60 * k + j) _ = tu τ 30 (60 * k + j) (nrw (τ 29 k) v) by
            congr 1
            unfold nrw
            first
              | rw [if_pos h49]
              | rw [if_neg h49, if_pos h64]
              | rw [if_neg h49, if_neg h64])
          refine aw_aload0 74 dX12_put_74 ?_
          refine aw_ic1 75 dX12_put_75 ?_
          refine rw_call1 76 dX12_put_76 c_X12_refused ckV_RX12_114 cd_X12_refused rfl hW rfl (Nat.le_of_ble_eq_true rfl) ⟨⟨by decide, by decide⟩, by decide, by decide⟩ rfl (fun M hW => ?_)
          refine aw_iret 79 dX12_put_79 rfl (Nat.zero_le _) (Nat.zero_le _) ?_
          exact ⟨rfl, hW⟩
        · refine aw_iload3 67 dX12_put_67 ?_
          refine aw_i2s 68 dX12_put_68 ?_
          refine aw_goto 69 73 dX12_put_69 (by decide) ?_
          refine rw_st 73 30 ((60 * k) + j) dX12_put_73 hW rfl (show (60 * k) + j < 240 by omega) (fun M hW => ?_)
          replace hW := ro_eq hW (show tu τ 30 (60 * k + j) _ = tu τ 30 (60 * k + j) (nrw (τ 29 k) v) by
            congr 1
            unfold nrw
            first
              | rw [if_pos h49]
              | rw [if_neg h49, if_pos h64]
              | rw [if_neg h49, if_neg h64])
          refine aw_aload0 74 dX12_put_74 ?_
          refine aw_ic1 75 dX12_put_75 ?_
          refine rw_call1 76 dX12_put_76 c_X12_refused ckV_RX12_114 cd_X12_refused rfl hW rfl (Nat.le_of_ble_eq_true rfl) ⟨⟨by decide, by decide⟩, by decide, by decide⟩ rfl (fun M hW => ?_)
          refine aw_iret 79 dX12_put_79 rfl (Nat.zero_le _) (Nat.zero_le _) ?_
          exact ⟨rfl, hW⟩
      · refine aw_iload3 52 dX12_put_52 ?_
        refine aw_i2b 53 dX12_put_53 ?_
        refine aw_goto 54 73 dX12_put_54 (by decide) ?_
        refine rw_st 73 30 ((60 * k) + j) dX12_put_73 hW rfl (show (60 * k) + j < 240 by omega) (fun M hW => ?_)
        replace hW := ro_eq hW (show tu τ 30 (60 * k + j) _ = tu τ 30 (60 * k + j) (nrw (τ 29 k) v) by
          congr 1
          unfold nrw
          first
            | rw [if_pos h49]
            | rw [if_neg h49, if_pos h64]
            | rw [if_neg h49, if_neg h64])
        refine aw_aload0 74 dX12_put_74 ?_
        refine aw_ic1 75 dX12_put_75 ?_
        refine rw_call1 76 dX12_put_76 c_X12_refused ckV_RX12_114 cd_X12_refused rfl hW rfl (Nat.le_of_ble_eq_true rfl) ⟨⟨by decide, by decide⟩, by decide, by decide⟩ rfl (fun M hW => ?_)
        refine aw_iret 79 dX12_put_79 rfl (Nat.zero_le _) (Nat.zero_le _) ?_
        exact ⟨rfl, hW⟩
    · exact absurd (by rw [hnc]; decide) h19
  · exact absurd hik h4

def rmX12_cell : Room := { frames := 2, cells := 0, slots := 0, locals := 47 }
set_option maxHeartbeats 4000000 in
set_option maxRecDepth 100000 in
theorem n_X12_cell {τ : TT} {v w u : Int32} (hno : ¬ irg v 0 3 ∨ ¬ irg u 0 2) : RD mX12_cell rmX12_cell [.int v, .int w, .int u] τ (some (.long (-9223372036854775808))) (tu τ 0 0 0) := by
  intro M0 hW0
  refine am_of rfl rfl (ls := [some (.ref 25), some (.int v), some (.int w), some (.int u)]) rfl ?_
  suffices HH : ∀ M, RO τ M0 M → AW mX12_cell rmX12_cell (fun r' M' => r' = (some (.long (-9223372036854775808))) ∧ RO (tu τ 0 0 0) M0 M') 0 [some (.ref 25), some (.int v), some (.int w), some (.int u)] [] M 0 0 from HH M0 ⟨hW0, Off.rf M0⟩
  intro M hW
  refine aw_aload0 0 dX12_cell_0 ?_
  refine aw_ic0 1 dX12_cell_1 ?_
  refine rw_pi 2 0 dX12_cell_2 ckF_RX12_81_12 ckP12_0 rfl (by decide) rfl hW (fun M hW => ?_)
  refine aw_iload1 5 dX12_cell_5 ?_
  refine sd_call1 6 dX12_cell_6 (c_X12_noSheet) ckS_RX12_110 cd_X12_noSheet rfl (Nat.le_of_ble_eq_true rfl) ⟨⟨by decide, by decide⟩, by decide, by decide⟩ rfl ?_
  refine aw_ifne_b 9 19 dX12_cell_9 (by decide) (fun h9 => ?_) (fun h9 => ?_)
  · refine sd_call1 19 dX12_cell_19 c_X12_lost ckS_RX12_85 cd_X12_lost rfl (Nat.le_of_ble_eq_true rfl) ⟨⟨by decide, by decide⟩, by decide, by decide⟩ rfl ?_
    refine aw_lret 22 dX12_cell_22 rfl (Nat.zero_le _) (Nat.zero_le _) ?_
    exact ⟨rfl, hW⟩
  · refine aw_iload3 12 dX12_cell_12 ?_
    refine sd_call1 13 dX12_cell_13 (c_X12_isLane) ckS_RX12_119 cd_X12_isLane rfl (Nat.le_of_ble_eq_true rfl) ⟨⟨by decide, by decide⟩, by decide, by decide⟩ rfl ?_
    refine aw_ifne_b 16 23 dX12_cell_16 (by decide) (fun h16 => ?_) (fun h16 => ?_)
    · exact absurd hno (fun q => q.elim h9 (fun z => z h16))
    · refine sd_call1 19 dX12_cell_19 c_X12_lost ckS_RX12_85 cd_X12_lost rfl (Nat.le_of_ble_eq_true rfl) ⟨⟨by decide, by decide⟩, by decide, by decide⟩ rfl ?_
      refine aw_lret 22 dX12_cell_22 rfl (Nat.zero_le _) (Nat.zero_le _) ?_
      exact ⟨rfl, hW⟩

def fCl (τ : TT) (k : Nat) (i l : Int32) : Int32 := if 0 ≤ τ 28 k ∧ ¬ τ 29 k = l then 2 else ncl τ k i
theorem tu_tu {τ : TT} {i k : Nat} {u v : Int32} : tu (tu τ i k u) i k v = tu τ i k v := by
  funext a b
  unfold tu
  by_cases h : a = i ∧ b = k
  · rw [if_pos h, if_pos h]
  · rw [if_neg h, if_neg h, if_neg h]

set_option maxHeartbeats 4000000 in
set_option maxRecDepth 100000 in
theorem n2_X12_cell {τ : TT} {k : Nat} {i l : Int32} (hs : WS τ) (hk : k < 4) (hl : irg l 0 2) (hc : 0 < fCl τ k i l) : RD mX12_cell rmX12_cell [.int (nI k), .int i, .int l] τ (some (.long (-9223372036854775808))) (tu τ 0 0 (fCl τ k i l)) := by
  intro M0 hW0
  refine am_of rfl rfl (ls := [some (.ref 25), some (.int (nI k)), some (.int i), some (.int l)]) rfl ?_
  suffices HH : ∀ M, RO τ M0 M → AW mX12_cell rmX12_cell (fun r' M' => r' = (some (.long (-9223372036854775808))) ∧ RO (tu τ 0 0 (fCl τ k i l)) M0 M') 0 [some (.ref 25), some (.int (nI k)), some (.int i), some (.int l)] [] M 0 0 from HH M0 ⟨hW0, Off.rf M0⟩
  intro M hW
  have hik : irg (nI k) 0 3 := irg_nI (b := 3) (by decide) (by omega)
  refine aw_aload0 0 dX12_cell_0 ?_
  refine aw_ic0 1 dX12_cell_1 ?_
  refine rw_pi 2 0 dX12_cell_2 ckF_RX12_81_12 ckP12_0 rfl (by decide) rfl hW (fun M hW => ?_)
  refine aw_iload1 5 dX12_cell_5 ?_
  refine sd_call1 6 dX12_cell_6 (c_X12_noSheet) ckS_RX12_110 cd_X12_noSheet rfl (Nat.le_of_ble_eq_true rfl) ⟨⟨by decide, by decide⟩, by decide, by decide⟩ rfl ?_
  refine aw_ifne_b 9 19 dX12_cell_9 (by decide) (fun h9 => ?_) (fun h9 => ?_)
  · first | exact absurd hik h9 | exact absurd hl h16
  · refine aw_iload3 12 dX12_cell_12 ?_
    refine sd_call1 13 dX12_cell_13 (c_X12_isLane) ckS_RX12_119 cd_X12_isLane rfl (Nat.le_of_ble_eq_true rfl) ⟨⟨by decide, by decide⟩, by decide, by decide⟩ rfl ?_
    refine aw_ifne_b 16 23 dX12_cell_16 (by decide) (fun h16 => ?_) (fun h16 => ?_)
    · refine aw_aload0 23 dX12_cell_23 ?_
      refine rw_ga 24 28 dX12_cell_24 ckF_RX12_67_12 (by decide) (by decide) hW ?_
      refine aw_iload1 27 dX12_cell_27 ?_
      refine rw_ld 28 28 (k) dX12_cell_28 hW rfl (show k < 4 by omega) ?_
      refine aw_if_lt 29 48 dX12_cell_29 (by decide) (fun h29 => ?_) (fun h29 => ?_)
      · replace h29 : τ 28 k < 0 := h29
        refine aw_aload0 48 dX12_cell_48 ?_
        refine aw_iload1 49 dX12_cell_49 ?_
        refine aw_iload2 50 dX12_cell_50 ?_
        refine rw_call1 51 dX12_cell_51 (show RD mX12_noCell rmX12_noCell [.int (nI k), .int i] (tu τ 0 0 0) (some (.int (ncl τ k i))) (tu τ 0 0 0) from c_X12_noCell (τ := tu τ 0 0 0) hs hk) ckV_RX12_297 cd_X12_noCell rfl hW rfl (Nat.le_of_ble_eq_true rfl) ⟨⟨by decide, by decide⟩, by decide, by decide⟩ rfl (fun M hW => ?_)
        refine aw_if_le 54 70 dX12_cell_54 (by decide) (fun h54 => ?_) (fun h54 => ?_)
        · exfalso
          have h1 : ¬ (0 ≤ τ 28 k ∧ ¬ τ 29 k = l) := by
            first
              | exact fun q => q.2 h39
              | exact fun q => absurd q.1 (Int32.not_le.mpr h29)
          unfold fCl at hc
          rw [if_neg h1] at hc
          exact absurd hc (Int32.not_lt.mpr h54)
        · refine aw_aload0 57 dX12_cell_57 ?_
          refine aw_aload0 58 dX12_cell_58 ?_
          refine aw_iload1 59 dX12_cell_59 ?_
          refine aw_iload2 60 dX12_cell_60 ?_
          refine rw_call1 61 dX12_cell_61 (show RD mX12_noCell rmX12_noCell [.int (nI k), .int i] (tu τ 0 0 0) (some (.int (ncl τ k i))) (tu τ 0 0 0) from c_X12_noCell (τ := tu τ 0 0 0) hs hk) ckV_RX12_297 cd_X12_noCell rfl hW rfl (Nat.le_of_ble_eq_true rfl) ⟨⟨by decide, by decide⟩, by decide, by decide⟩ rfl (fun M hW => ?_)
          refine rw_call1 64 dX12_cell_64 c_X12_failedLong ckV_RX12_300 cd_X12_failedLong rfl hW rfl (Nat.le_of_ble_eq_true rfl) ⟨⟨by decide, by decide⟩, by decide, by decide⟩ rfl (fun M hW => ?_)
          refine aw_goto 67 82 dX12_cell_67 (by decide) ?_
          refine aw_lret 82 dX12_cell_82 rfl (Nat.zero_le _) (Nat.zero_le _) ?_
          refine ⟨rfl, ro_eq hW ?_⟩
          rw [tu_tu]
          unfold fCl
          first
            | rw [if_pos (And.intro (Int32.not_lt.mp h29) h39)]
            | rw [if_neg (nr (nn h39))]
            | rw [if_neg (nl (Int32.not_le.mpr h29))]
      · replace h29 : ¬ τ 28 k < 0 := h29
        refine aw_aload0 32 dX12_cell_32 ?_
        refine rw_ga 33 29 dX12_cell_33 ckF_RX12_70_12 (by decide) (by decide) hW ?_
        refine aw_iload1 36 dX12_cell_36 ?_
        refine rw_ld 37 29 (k) dX12_cell_37 hW rfl (show k < 4 by omega) ?_
        refine aw_iload3 38 dX12_cell_38 ?_
        refine aw_icmp_eq 39 48 dX12_cell_39 (by decide) (fun h39 => ?_) (fun h39 => ?_)
        · replace h39 : τ 29 k = l := h39
          refine aw_aload0 48 dX12_cell_48 ?_
          refine aw_iload1 49 dX12_cell_49 ?_
          refine aw_iload2 50 dX12_cell_50 ?_
          refine rw_call1 51 dX12_cell_51 (show RD mX12_noCell rmX12_noCell [.int (nI k), .int i] (tu τ 0 0 0) (some (.int (ncl τ k i))) (tu τ 0 0 0) from c_X12_noCell (τ := tu τ 0 0 0) hs hk) ckV_RX12_297 cd_X12_noCell rfl hW rfl (Nat.le_of_ble_eq_true rfl) ⟨⟨by decide, by decide⟩, by decide, by decide⟩ rfl (fun M hW => ?_)
          refine aw_if_le 54 70 dX12_cell_54 (by decide) (fun h54 => ?_) (fun h54 => ?_)
          · exfalso
            have h1 : ¬ (0 ≤ τ 28 k ∧ ¬ τ 29 k = l) := by
              first
                | exact fun q => q.2 h39
                | exact fun q => absurd q.1 (Int32.not_le.mpr h29)
            unfold fCl at hc
            rw [if_neg h1] at hc
            exact absurd hc (Int32.not_lt.mpr h54)
          · refine aw_aload0 57 dX12_cell_57 ?_
            refine aw_aload0 58 dX12_cell_58 ?_
            refine aw_iload1 59 dX12_cell_59 ?_
            refine aw_iload2 60 dX12_cell_60 ?_
            refine rw_call1 61 dX12_cell_61 (show RD mX12_noCell rmX12_noCell [.int (nI k), .int i] (tu τ 0 0 0) (some (.int (ncl τ k i))) (tu τ 0 0 0) from c_X12_noCell (τ := tu τ 0 0 0) hs hk) ckV_RX12_297 cd_X12_noCell rfl hW rfl (Nat.le_of_ble_eq_true rfl) ⟨⟨by decide, by decide⟩, by decide, by decide⟩ rfl (fun M hW => ?_)
            refine rw_call1 64 dX12_cell_64 c_X12_failedLong ckV_RX12_300 cd_X12_failedLong rfl hW rfl (Nat.le_of_ble_eq_true rfl) ⟨⟨by decide, by decide⟩, by decide, by decide⟩ rfl (fun M hW => ?_)
            refine aw_goto 67 82 dX12_cell_67 (by decide) ?_
            refine aw_lret 82 dX12_cell_82 rfl (Nat.zero_le _) (Nat.zero_le _) ?_
            refine ⟨rfl, ro_eq hW ?_⟩
            rw [tu_tu]
            unfold fCl
            first
              | rw [if_pos (And.intro (Int32.not_lt.mp h29) h39)]
              | rw [if_neg (nr (nn h39))]
              | rw [if_neg (nl (Int32.not_le.mpr h29))]
        · replace h39 : ¬ τ 29 k = l := h39
          refine aw_aload0 42 dX12_cell_42 ?_
          refine aw_ic2 43 dX12_cell_43 ?_
          refine rw_call1 44 dX12_cell_44 c_X12_failedLong ckV_RX12_300 cd_X12_failedLong rfl hW rfl (Nat.le_of_ble_eq_true rfl) ⟨⟨by decide, by decide⟩, by decide, by decide⟩ rfl (fun M hW => ?_)
          refine aw_lret 47 dX12_cell_47 rfl (Nat.zero_le _) (Nat.zero_le _) ?_
          refine ⟨rfl, ro_eq hW ?_⟩
          rw [tu_tu]
          unfold fCl
          first
            | rw [if_pos (And.intro (Int32.not_lt.mp h29) h39)]
            | rw [if_neg (nr (nn h39))]
            | rw [if_neg (nl (Int32.not_le.mpr h29))]
    · first | exact absurd hik h9 | exact absurd hl h16

set_option maxHeartbeats 4000000 in
set_option maxRecDepth 100000 in
theorem c_X12_cell {τ : TT} {k j : Nat} {l : Int32} (hs : WS τ) (hk : k < 4) (hl : irg l 0 2) (h0 : ¬ τ 28 k < 0) (hll : τ 29 k = l) (hj : j < ssz τ k) : RD mX12_cell rmX12_cell [.int (nI k), .int (nI j), .int l] τ (some (.long (τ 30 (60 * k + j)).toInt64)) (tu τ 0 0 0) := by
  intro M0 hW0
  refine am_of rfl rfl (ls := [some (.ref 25), some (.int (nI k)), some (.int (nI j)), some (.int l)]) rfl ?_
  suffices HH : ∀ M, RO τ M0 M → AW mX12_cell rmX12_cell (fun r' M' => r' = (some (.long (τ 30 (60 * k + j)).toInt64)) ∧ RO (tu τ 0 0 0) M0 M') 0 [some (.ref 25), some (.int (nI k)), some (.int (nI j)), some (.int l)] [] M 0 0 from HH M0 ⟨hW0, Off.rf M0⟩
  intro M hW
  have hik : irg (nI k) 0 3 := irg_nI (b := 3) (by decide) (by omega)
  have hsz := hs.ok hk h0
  have hnc := ncl_0 hs hk h0 hj
  refine aw_aload0 0 dX12_cell_0 ?_
  refine aw_ic0 1 dX12_cell_1 ?_
  refine rw_pi 2 0 dX12_cell_2 ckF_RX12_81_12 ckP12_0 rfl (by decide) rfl hW (fun M hW => ?_)
  refine aw_iload1 5 dX12_cell_5 ?_
  refine sd_call1 6 dX12_cell_6 (c_X12_noSheet) ckS_RX12_110 cd_X12_noSheet rfl (Nat.le_of_ble_eq_true rfl) ⟨⟨by decide, by decide⟩, by decide, by decide⟩ rfl ?_
  refine aw_ifne_b 9 19 dX12_cell_9 (by decide) (fun h9 => ?_) (fun h9 => ?_)
  · first | exact absurd hik h9 | exact absurd hl h16
  · refine aw_iload3 12 dX12_cell_12 ?_
    refine sd_call1 13 dX12_cell_13 (c_X12_isLane) ckS_RX12_119 cd_X12_isLane rfl (Nat.le_of_ble_eq_true rfl) ⟨⟨by decide, by decide⟩, by decide, by decide⟩ rfl ?_
    refine aw_ifne_b 16 23 dX12_cell_16 (by decide) (fun h16 => ?_) (fun h16 => ?_)
    · refine aw_aload0 23 dX12_cell_23 ?_
      refine rw_ga 24 28 dX12_cell_24 ckF_RX12_67_12 (by decide) (by decide) hW ?_
      refine aw_iload1 27 dX12_cell_27 ?_
      refine rw_ld 28 28 (k) dX12_cell_28 hW rfl (show k < 4 by omega) ?_
      refine aw_if_lt 29 48 dX12_cell_29 (by decide) (fun h29 => ?_) (fun h29 => ?_)
      · exact absurd h29 h0
      · refine aw_aload0 32 dX12_cell_32 ?_
        refine rw_ga 33 29 dX12_cell_33 ckF_RX12_70_12 (by decide) (by decide) hW ?_
        refine aw_iload1 36 dX12_cell_36 ?_
        refine rw_ld 37 29 (k) dX12_cell_37 hW rfl (show k < 4 by omega) ?_
        refine aw_iload3 38 dX12_cell_38 ?_
        refine aw_icmp_eq 39 48 dX12_cell_39 (by decide) (fun h39 => ?_) (fun h39 => ?_)
        · refine aw_aload0 48 dX12_cell_48 ?_
          refine aw_iload1 49 dX12_cell_49 ?_
          refine aw_iload2 50 dX12_cell_50 ?_
          refine rw_call1 51 dX12_cell_51 (show RD mX12_noCell rmX12_noCell [.int (nI k), .int (nI j)] (tu τ 0 0 0) (some (.int (ncl τ k (nI j)))) (tu τ 0 0 0) from c_X12_noCell (τ := tu τ 0 0 0) hs hk) ckV_RX12_297 cd_X12_noCell rfl hW rfl (Nat.le_of_ble_eq_true rfl) ⟨⟨by decide, by decide⟩, by decide, by decide⟩ rfl (fun M hW => ?_)
          refine aw_if_le 54 70 dX12_cell_54 (by decide) (fun h54 => ?_) (fun h54 => ?_)
          · refine aw_aload0 70 dX12_cell_70 ?_
            refine rw_ga 71 30 dX12_cell_71 ckF_RX12_73_12 (by decide) (by decide) hW ?_
            refine aw_bipush 74 60 dX12_cell_74 (by decide) ?_
            refine aw_iload1 76 dX12_cell_76 ?_
            refine aw_imulN 77 (60) (k) dX12_cell_77 rfl rfl ?_
            refine aw_iload2 78 dX12_cell_78 ?_
            refine aw_iaddN 79 (60 * k) (j) dX12_cell_79 rfl rfl ?_
            refine rw_ld 80 30 ((60 * k) + j) dX12_cell_80 hW rfl (show (60 * k) + j < 240 by omega) ?_
            refine aw_i2l 81 dX12_cell_81 ?_
            refine aw_lret 82 dX12_cell_82 rfl (Nat.zero_le _) (Nat.zero_le _) ?_
            exact ⟨rfl, hW⟩
          · exact absurd (show ncl τ k (nI j) ≤ 0 by rw [hnc]; decide) h54
        · exact absurd hll h39
    · first | exact absurd hik h9 | exact absurd hl h16

