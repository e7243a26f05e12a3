/-! the reference: its plain calls (rows laid by gen/ref4.py) -/

def rmX12_trace : Room := { frames := 0, cells := 0, slots := 0, locals := 0 }
set_option maxHeartbeats 4000000 in
set_option maxRecDepth 100000 in
theorem c_X12_trace {τ : TT}  : RD mX12_trace rmX12_trace [] τ (some (.int (τ 32 0))) (τ) := by
  intro M0 hW0
  refine am_of rfl rfl (ls := [some (.ref 25)]) rfl ?_
  suffices HH : ∀ M, RO τ M0 M → AW mX12_trace rmX12_trace (fun r' M' => r' = (some (.int (τ 32 0))) ∧ RO (τ) M0 M') 0 [some (.ref 25)] [] M 0 0 from HH M0 ⟨hW0, Off.rf M0⟩
  intro M hW
  refine aw_aload0 0 dX12_trace_0 ?_
  refine rw_gi 1 32 dX12_trace_1 ckF_RX12_304_12 (by decide) rfl hW ?_
  refine aw_iret 4 dX12_trace_4 rfl (Nat.zero_le _) (Nat.zero_le _) ?_
  exact ⟨rfl, hW⟩

def rmX12_fault : Room := { frames := 0, cells := 0, slots := 0, locals := 0 }
set_option maxHeartbeats 4000000 in
set_option maxRecDepth 100000 in
theorem c_X12_fault {τ : TT}  : RD mX12_fault rmX12_fault [] τ (some (.int (τ 0 0))) (τ) := by
  intro M0 hW0
  refine am_of rfl rfl (ls := [some (.ref 25)]) rfl ?_
  suffices HH : ∀ M, RO τ M0 M → AW mX12_fault rmX12_fault (fun r' M' => r' = (some (.int (τ 0 0))) ∧ RO (τ) M0 M') 0 [some (.ref 25)] [] M 0 0 from HH M0 ⟨hW0, Off.rf M0⟩
  intro M hW
  refine aw_aload0 0 dX12_fault_0 ?_
  refine rw_gi 1 0 dX12_fault_1 ckF_RX12_81_12 (by decide) rfl hW ?_
  refine aw_iret 4 dX12_fault_4 rfl (Nat.zero_le _) (Nat.zero_le _) ?_
  exact ⟨rfl, hW⟩

abbrev irg (v : Int32) (a b : Int) : Prop := a ≤ v.toInt ∧ v.toInt ≤ b
def rmX12_within : Room := { frames := 1, cells := 0, slots := 0, locals := 25 }
set_option maxHeartbeats 4000000 in
set_option maxRecDepth 100000 in
theorem c_X12_within {τ : TT} {v : Int32} : RD mX12_within rmX12_within [.int v] τ (some (.int (if irg v 0 20 then τ 23 0 else -2))) (if irg v 0 20 then tu τ 23 0 v else τ) := by
  intro M0 hW0
  refine am_of rfl rfl (ls := [some (.ref 25), some (.int v), none]) rfl ?_
  suffices HH : ∀ M, RO τ M0 M → AW mX12_within rmX12_within (fun r' M' => r' = (some (.int (if irg v 0 20 then τ 23 0 else -2))) ∧ RO (if irg v 0 20 then tu τ 23 0 v else τ) M0 M') 0 [some (.ref 25), some (.int v), none] [] M 0 0 from HH M0 ⟨hW0, Off.rf M0⟩
  intro M hW
  refine aw_iload1 0 dX12_within_0 ?_
  refine aw_i2l 1 dX12_within_1 ?_
  refine aw_lc0 2 dX12_within_2 ?_
  refine aw_ldc2 3 (20) dX12_within_3 ckL_RX12_236 ?_
  refine sd_call1 6 dX12_within_6 (c_in2 (0) (20) (by decide) (by decide)) ckS_RX12_99 cd_X12_in rfl (Nat.le_of_ble_eq_true rfl) ⟨⟨by decide, by decide⟩, by decide, by decide⟩ rfl ?_
  refine aw_ifne_b 9 15 dX12_within_9 (by decide) (fun h9 => ?_) (fun h9 => ?_)
  · refine aw_aload0 15 dX12_within_15 ?_
    refine rw_gi 16 23 dX12_within_16 ckF_RX12_238_12 (by decide) rfl hW ?_
    refine aw_istore2 19 dX12_within_19 rfl ?_
    refine aw_aload0 20 dX12_within_20 ?_
    refine aw_iload1 21 dX12_within_21 ?_
    refine rw_pi 22 23 dX12_within_22 ckF_RX12_238_12 ckP12_23 rfl (by decide) rfl hW (fun M hW => ?_)
    refine aw_iload2 25 dX12_within_25 ?_
    refine aw_iret 26 dX12_within_26 rfl (Nat.zero_le _) (Nat.zero_le _) ?_
    refine ⟨?_, ?_⟩
    · first
        | (rw [if_pos h9]; done)
        | (rw [if_neg h9]; done)
    · first
        | (rw [if_pos h9]; exact hW)
        | (rw [if_neg h9]; exact hW)
  · refine aw_bipush 12 (-2) dX12_within_12 (by decide) ?_
    refine aw_iret 14 dX12_within_14 rfl (Nat.zero_le _) (Nat.zero_le _) ?_
    refine ⟨?_, ?_⟩
    · first
        | (rw [if_pos h9]; done)
        | (rw [if_neg h9]; done)
    · first
        | (rw [if_pos h9]; exact hW)
        | (rw [if_neg h9]; exact hW)

def rmX12_ofPicture : Room := { frames := 4, cells := 0, slots := 0, locals := 90 }
set_option maxHeartbeats 4000000 in
set_option maxRecDepth 100000 in
theorem n_X12_ofPicture {τ : TT} {v w : Int32} (hw : WP τ) (hno : ¬ ir v (nP τ)) : RD mX12_ofPicture rmX12_ofPicture [.int v, .int w] τ (some (.int (-1))) (τ) := by
  intro M0 hW0
  refine am_of rfl rfl (ls := [some (.ref 25), some (.int v), some (.int w)]) rfl ?_
  suffices HH : ∀ M, RO τ M0 M → AW mX12_ofPicture rmX12_ofPicture (fun r' M' => r' = (some (.int (-1))) ∧ RO (τ) M0 M') 0 [some (.ref 25), some (.int v), some (.int w)] [] M 0 0 from HH M0 ⟨hW0, Off.rf M0⟩
  intro M hW
  refine aw_aload0 0 dX12_ofPicture_0 ?_
  refine aw_iload1 1 dX12_ofPicture_1 ?_
  refine rw_call1 2 dX12_ofPicture_2 (c_X12_noPicture hw) ckV_RX12_146 cd_X12_noPicture rfl hW rfl (Nat.le_of_ble_eq_true rfl) ⟨⟨by decide, by decide⟩, by decide, by decide⟩ rfl (fun M hW => ?_)
  refine aw_ifeq_b 5 10 dX12_ofPicture_5 (by decide) (fun h5 => ?_) (fun h5 => ?_)
  · exact absurd hno h5
  · refine aw_icm1 8 dX12_ofPicture_8 ?_
    refine aw_iret 9 dX12_ofPicture_9 rfl (Nat.zero_le _) (Nat.zero_le _) ?_
    exact ⟨rfl, hW⟩

def sOf (τ : TT) (p : Nat) (w : Int32) : Int32 := if w = 0 then τ 2 p else if w = 1 then τ 3 p else if w = 2 then rsum τ p (mny τ p) else if w = 3 then TN (leaf τ p) 1 else if irg w 10 25 ∧ thr τ p (w.toNatClampNeg - 10) then τ 4 (16 * p + (w.toNatClampNeg - 10)) else -2
def tOf (τ : TT) (p : Nat) (w : Int32) : TT := if w = 3 then lay τ p else τ

set_option maxHeartbeats 4000000 in
set_option maxRecDepth 100000 in
theorem c_X12_ofPicture {τ : TT} {p : Nat} {w : Int32} (hw : WP τ) (hp : p < nP τ) : RD mX12_ofPicture rmX12_ofPicture [.int (nI p), .int w] τ (some (.int (sOf τ p w))) (tOf τ p w) := by
  intro M0 hW0
  refine am_of rfl rfl (ls := [some (.ref 25), some (.int (nI p)), some (.int w)]) rfl ?_
  suffices HH : ∀ M, RO τ M0 M → AW mX12_ofPicture rmX12_ofPicture (fun r' M' => r' = (some (.int (sOf τ p w))) ∧ RO (tOf τ p w) M0 M') 0 [some (.ref 25), some (.int (nI p)), some (.int w)] [] M 0 0 from HH M0 ⟨hW0, Off.rf M0⟩
  intro M hW
  have hn12 := hw.1.1
  have hwd := (hw.2 p hp).1
  have hhg := (hw.2 p hp).2
  have hip := ir_nI (n := nP τ) (by omega) hp
  refine aw_aload0 0 dX12_ofPicture_0 ?_
  refine aw_iload1 1 dX12_ofPicture_1 ?_
  refine rw_call1 2 dX12_ofPicture_2 (c_X12_noPicture hw) ckV_RX12_146 cd_X12_noPicture rfl hW rfl (Nat.le_of_ble_eq_true rfl) ⟨⟨by decide, by decide⟩, by decide, by decide⟩ rfl (fun M hW => ?_)
  refine aw_ifeq_b 5 10 dX12_ofPicture_5 (by decide) (fun h5 => ?_) (fun h5 => ?_)
  · refine aw_iload2 10 dX12_ofPicture_10 ?_
    by_cases hs0 : w = 0
    · subst hs0
      refine aw_tabIn 11 40 dX12_ofPicture_11 (by decide) (by decide) rfl (by decide) ?_
      refine aw_aload0 40 dX12_ofPicture_40 ?_
      refine rw_ga 41 2 dX12_ofPicture_41 ckF_RX12_7_12 (by decide) (by decide) hW ?_
      refine aw_iload1 44 dX12_ofPicture_44 ?_
      refine rw_ld 45 2 (p) dX12_ofPicture_45 hW rfl (show p < 12 by omega) ?_
      refine aw_iret 46 dX12_ofPicture_46 rfl (Nat.zero_le _) (Nat.zero_le _) ?_
      refine ⟨?_, ?_⟩
      · unfold sOf
        first
          | (rw [if_pos rfl]; done)
          | (rw [if_neg (by decide), if_pos rfl]; done)
          | (rw [if_neg (by decide), if_neg (by decide), if_pos rfl]; rfl)
          | (rw [if_neg (by decide), if_neg (by decide), if_neg (by decide), if_pos rfl]; done)
          | (rw [if_neg hs0, if_neg hs1, if_neg hs2, if_neg hs3, if_neg (fun q => h77 q.1)]; done)
          | (rw [if_neg hs0, if_neg hs1, if_neg hs2, if_neg hs3, hcl, show 10 + k - 10 = k by omega, if_neg (fun q => h89 q.2)]; done)
          | (rw [if_neg hs0, if_neg hs1, if_neg hs2, if_neg hs3, hcl, show 10 + k - 10 = k by omega, if_pos ⟨h77, h89⟩]; done)
      · unfold tOf
        first
          | (rw [if_pos rfl]; exact hW)
          | (rw [if_neg (by first | decide | assumption)]; exact hW)
    by_cases hs1 : w = 1
    · subst hs1
      refine aw_tabIn 11 47 dX12_ofPicture_11 (by decide) (by decide) rfl (by decide) ?_
      refine aw_aload0 47 dX12_ofPicture_47 ?_
      refine rw_ga 48 3 dX12_ofPicture_48 ckF_RX12_13_12 (by decide) (by decide) hW ?_
      refine aw_iload1 51 dX12_ofPicture_51 ?_
      refine rw_ld 52 3 (p) dX12_ofPicture_52 hW rfl (show p < 12 by omega) ?_
      refine aw_iret 53 dX12_ofPicture_53 rfl (Nat.zero_le _) (Nat.zero_le _) ?_
      refine ⟨?_, ?_⟩
      · unfold sOf
        first
          | (rw [if_pos rfl]; done)
          | (rw [if_neg (by decide), if_pos rfl]; done)
          | (rw [if_neg (by decide), if_neg (by decide), if_pos rfl]; rfl)
          | (rw [if_neg (by decide), if_neg (by decide), if_neg (by decide), if_pos rfl]; done)
          | (rw [if_neg hs0, if_neg hs1, if_neg hs2, if_neg hs3, if_neg (fun q => h77 q.1)]; done)
          | (rw [if_neg hs0, if_neg hs1, if_neg hs2, if_neg hs3, hcl, show 10 + k - 10 = k by omega, if_neg (fun q => h89 q.2)]; done)
          | (rw [if_neg hs0, if_neg hs1, if_neg hs2, if_neg hs3, hcl, show 10 + k - 10 = k by omega, if_pos ⟨h77, h89⟩]; done)
      · unfold tOf
        first
          | (rw [if_pos rfl]; exact hW)
          | (rw [if_neg (by first | decide | assumption)]; exact hW)
    by_cases hs2 : w = 2
    · subst hs2
      refine aw_tabIn 11 54 dX12_ofPicture_11 (by decide) (by decide) rfl (by decide) ?_
      refine aw_aload0 54 dX12_ofPicture_54 ?_
      refine aw_iload1 55 dX12_ofPicture_55 ?_
      refine rw_call1 56 dX12_ofPicture_56 (c_X12_sumOf hw hp) ckV_RX12_149 cd_X12_sumOf rfl hW rfl (Nat.le_of_ble_eq_true rfl) ⟨⟨by decide, by decide⟩, by decide, by decide⟩ rfl (fun M hW => ?_)
      refine aw_iret 59 dX12_ofPicture_59 rfl (Nat.zero_le _) (Nat.zero_le _) ?_
      refine ⟨?_, ?_⟩
      · unfold sOf
        first
          | (rw [if_pos rfl]; done)
          | (rw [if_neg (by decide), if_pos rfl]; done)
          | (rw [if_neg (by decide), if_neg (by decide), if_pos rfl]; rfl)
          | (rw [if_neg (by decide), if_neg (by decide), if_neg (by decide), if_pos rfl]; done)
          | (rw [if_neg hs0, if_neg hs1, if_neg hs2, if_neg hs3, if_neg (fun q => h77 q.1)]; done)
          | (rw [if_neg hs0, if_neg hs1, if_neg hs2, if_neg hs3, hcl, show 10 + k - 10 = k by omega, if_neg (fun q => h89 q.2)]; done)
          | (rw [if_neg hs0, if_neg hs1, if_neg hs2, if_neg hs3, hcl, show 10 + k - 10 = k by omega, if_pos ⟨h77, h89⟩]; done)
      · unfold tOf
        first
          | (rw [if_pos rfl]; exact hW)
          | (rw [if_neg (by first | decide | assumption)]; exact hW)
    by_cases hs3 : w = 3
    · subst hs3
      refine aw_tabIn 11 60 dX12_ofPicture_11 (by decide) (by decide) rfl (by decide) ?_
      refine aw_aload0 60 dX12_ofPicture_60 ?_
      refine aw_iload1 61 dX12_ofPicture_61 ?_
      refine rw_call1 62 dX12_ofPicture_62 (c_X12_rootOf hw hp) ckV_RX12_152 cd_X12_rootOf rfl hW rfl (Nat.le_of_ble_eq_true rfl) ⟨⟨by decide, by decide⟩, by decide, by decide⟩ rfl (fun M hW => ?_)
      refine aw_iret 65 dX12_ofPicture_65 rfl (Nat.zero_le _) (Nat.zero_le _) ?_
      refine ⟨?_, ?_⟩
      · unfold sOf
        first
          | (rw [if_pos rfl]; done)
          | (rw [if_neg (by decide), if_pos rfl]; done)
          | (rw [if_neg (by decide), if_neg (by decide), if_pos rfl]; rfl)
          | (rw [if_neg (by decide), if_neg (by decide), if_neg (by decide), if_pos rfl]; done)
          | (rw [if_neg hs0, if_neg hs1, if_neg hs2, if_neg hs3, if_neg (fun q => h77 q.1)]; done)
          | (rw [if_neg hs0, if_neg hs1, if_neg hs2, if_neg hs3, hcl, show 10 + k - 10 = k by omega, if_neg (fun q => h89 q.2)]; done)
          | (rw [if_neg hs0, if_neg hs1, if_neg hs2, if_neg hs3, hcl, show 10 + k - 10 = k by omega, if_pos ⟨h77, h89⟩]; done)
      · unfold tOf
        first
          | (rw [if_pos rfl]; exact hW)
          | (rw [if_neg (by first | decide | assumption)]; exact hW)
    have hso : w.toInt < 0 ∨ 3 < w.toInt := by
      have q0 := lv_neT (a := 0) hs0 (by decide)
      have q1 := lv_neT (a := 1) hs1 (by decide)
      have q2 := lv_neT (a := 2) hs2 (by decide)
      have q3 := lv_neT (a := 3) hs3 (by decide)
      omega
    refine aw_tabOut 11 66 dX12_ofPicture_11 hso (by decide) ?_
    refine aw_iload2 66 dX12_ofPicture_66 ?_
    refine aw_i2l 67 dX12_ofPicture_67 ?_
    refine aw_ldc2 68 (10) dX12_ofPicture_68 ckL_RX12_155 ?_
    refine aw_ldc2 71 (25) dX12_ofPicture_71 ckL_RX12_157 ?_
    refine sd_call1 74 dX12_ofPicture_74 (c_in2 (10) (25) (by decide) (by decide)) ckS_RX12_99 cd_X12_in rfl (Nat.le_of_ble_eq_true rfl) ⟨⟨by decide, by decide⟩, by decide, by decide⟩ rfl ?_
    refine aw_ifeq_b 77 109 dX12_ofPicture_77 (by decide) (fun h77 => ?_) (fun h77 => ?_)
    · refine aw_bipush 109 (-2) dX12_ofPicture_109 (by decide) ?_
      refine aw_iret 111 dX12_ofPicture_111 rfl (Nat.zero_le _) (Nat.zero_le _) ?_
      refine ⟨?_, ?_⟩
      · unfold sOf
        first
          | (rw [if_pos rfl]; done)
          | (rw [if_neg (by decide), if_pos rfl]; done)
          | (rw [if_neg (by decide), if_neg (by decide), if_pos rfl]; rfl)
          | (rw [if_neg (by decide), if_neg (by decide), if_neg (by decide), if_pos rfl]; done)
          | (rw [if_neg hs0, if_neg hs1, if_neg hs2, if_neg hs3, if_neg (fun q => h77 q.1)]; done)
          | (rw [if_neg hs0, if_neg hs1, if_neg hs2, if_neg hs3, hcl, show 10 + k - 10 = k by omega, if_neg (fun q => h89 q.2)]; done)
          | (rw [if_neg hs0, if_neg hs1, if_neg hs2, if_neg hs3, hcl, show 10 + k - 10 = k by omega, if_pos ⟨h77, h89⟩]; done)
      · unfold tOf
        first
          | (rw [if_pos rfl]; exact hW)
          | (rw [if_neg (by first | decide | assumption)]; exact hW)
    · obtain ⟨k, hk, rfl⟩ : ∃ k : Nat, k < 16 ∧ w = nI (10 + k) := by
        obtain ⟨z, hz, rfl⟩ := ir_of (v := w) (n := 26) ⟨by have := h77.1; omega, by have := h77.2; omega⟩ (by decide)
        rw [nI_toInt (by omega)] at h77
        exact ⟨z - 10, by omega, by rw [show 10 + (z - 10) = z by omega]⟩
      have hcl := nI_clamp (n := 10 + k) (by omega)
      refine aw_aload0 80 dX12_ofPicture_80 ?_
      refine aw_iload1 81 dX12_ofPicture_81 ?_
      refine aw_iload2 82 dX12_ofPicture_82 ?_
      refine aw_bipush 83 10 dX12_ofPicture_83 (by decide) ?_
      refine aw_isubN 85 (10 + k) (10) dX12_ofPicture_85 rfl rfl (by omega) ?_
      rw [show 10 + k - 10 = k by omega]
      refine rw_call1 86 dX12_ofPicture_86 (c_isThereN hw hp hk) ckV_RX12_135 cd_X12_isThere rfl hW rfl (Nat.le_of_ble_eq_true rfl) ⟨⟨by decide, by decide⟩, by decide, by decide⟩ rfl (fun M hW => ?_)
      refine aw_ifeq_b 89 109 dX12_ofPicture_89 (by decide) (fun h89 => ?_) (fun h89 => ?_)
      · refine aw_bipush 109 (-2) dX12_ofPicture_109 (by decide) ?_
        refine aw_iret 111 dX12_ofPicture_111 rfl (Nat.zero_le _) (Nat.zero_le _) ?_
        refine ⟨?_, ?_⟩
        · unfold sOf
          first
            | (rw [if_pos rfl]; done)
            | (rw [if_neg (by decide), if_pos rfl]; done)
            | (rw [if_neg (by decide), if_neg (by decide), if_pos rfl]; rfl)
            | (rw [if_neg (by decide), if_neg (by decide), if_neg (by decide), if_pos rfl]; done)
            | (rw [if_neg hs0, if_neg hs1, if_neg hs2, if_neg hs3, if_neg (fun q => h77 q.1)]; done)
            | (rw [if_neg hs0, if_neg hs1, if_neg hs2, if_neg hs3, hcl, show 10 + k - 10 = k by omega, if_neg (fun q => h89 q.2)]; done)
            | (rw [if_neg hs0, if_neg hs1, if_neg hs2, if_neg hs3, hcl, show 10 + k - 10 = k by omega, if_pos ⟨h77, h89⟩]; done)
        · unfold tOf
          first
            | (rw [if_pos rfl]; exact hW)
            | (rw [if_neg (by first | decide | assumption)]; exact hW)
      · refine aw_aload0 92 dX12_ofPicture_92 ?_
        refine rw_ga 93 4 dX12_ofPicture_93 ckF_RX12_16_12 (by decide) (by decide) hW ?_
        refine aw_bipush 96 16 dX12_ofPicture_96 (by decide) ?_
        refine aw_iload1 98 dX12_ofPicture_98 ?_
        refine aw_imulN 99 (16) (p) dX12_ofPicture_99 rfl rfl ?_
        refine aw_iload2 100 dX12_ofPicture_100 ?_
        refine aw_iaddN 101 (16 * p) (10 + k) dX12_ofPicture_101 rfl rfl ?_
        refine aw_bipush 102 10 dX12_ofPicture_102 (by decide) ?_
        refine aw_isubN 104 ((16 * p) + (10 + k)) (10) dX12_ofPicture_104 rfl rfl (by omega) ?_
        refine rw_ld 105 4 (16 * p + (10 + k) - 10) dX12_ofPicture_105 hW rfl (show 16 * p + (10 + k) - 10 < 192 by omega) ?_
        rw [show 16 * p + (10 + k) - 10 = 16 * p + k by omega]
        refine aw_goto 106 111 dX12_ofPicture_106 (by decide) ?_
        refine aw_iret 111 dX12_ofPicture_111 rfl (Nat.zero_le _) (Nat.zero_le _) ?_
        refine ⟨?_, ?_⟩
        · unfold sOf
          first
            | (rw [if_pos rfl]; done)
            | (rw [if_neg (by decide), if_pos rfl]; done)
            | (rw [if_neg (by decide), if_neg (by decide), if_pos rfl]; rfl)
            | (rw [if_neg (by decide), if_neg (by decide), if_neg (by decide), if_pos rfl]; done)
            | (rw [if_neg hs0, if_neg hs1, if_neg hs2, if_neg hs3, if_neg (fun q => h77 q.1)]; done)
            | (rw [if_neg hs0, if_neg hs1, if_neg hs2, if_neg hs3, hcl, show 10 + k - 10 = k by omega, if_neg (fun q => h89 q.2)]; done)
            | (rw [if_neg hs0, if_neg hs1, if_neg hs2, if_neg hs3, hcl, show 10 + k - 10 = k by omega, if_pos ⟨h77, h89⟩]; done)
        · unfold tOf
          first
            | (rw [if_pos rfl]; exact hW)
            | (rw [if_neg (by first | decide | assumption)]; exact hW)
  · exact absurd hip h5

def rmX12_alter : Room := { frames := 2, cells := 0, slots := 0, locals := 47 }
set_option maxHeartbeats 4000000 in
set_option maxRecDepth 100000 in
theorem n_X12_alter {τ : TT} {v j w : Int32} (hw : WP τ) (hno : ¬ ir v (nP τ)) : RD mX12_alter rmX12_alter [.int v, .int j, .int w] τ (some (.int (-1))) (τ) := by
  intro M0 hW0
  refine am_of rfl rfl (ls := [some (.ref 25), some (.int v), some (.int j), some (.int w), none]) rfl ?_
  suffices HH : ∀ M, RO τ M0 M → AW mX12_alter rmX12_alter (fun r' M' => r' = (some (.int (-1))) ∧ RO (τ) M0 M') 0 [some (.ref 25), some (.int v), some (.int j), some (.int w), none] [] M 0 0 from HH M0 ⟨hW0, Off.rf M0⟩
  intro M hW
  refine aw_aload0 0 dX12_alter_0 ?_
  refine aw_iload1 1 dX12_alter_1 ?_
  refine rw_call1 2 dX12_alter_2 (c_X12_noPicture hw) ckV_RX12_146 cd_X12_noPicture rfl hW rfl (Nat.le_of_ble_eq_true rfl) ⟨⟨by decide, by decide⟩, by decide, by decide⟩ rfl (fun M hW => ?_)
  refine aw_ifne_b 5 17 dX12_alter_5 (by decide) (fun h5 => ?_) (fun h5 => ?_)
  · refine aw_icm1 17 dX12_alter_17 ?_
    refine aw_iret 18 dX12_alter_18 rfl (Nat.zero_le _) (Nat.zero_le _) ?_
    exact ⟨rfl, hW⟩
  · exact absurd hno h5

set_option maxHeartbeats 4000000 in
set_option maxRecDepth 100000 in
theorem n2_X12_alter {τ : TT} {p : Nat} {j w : Int32} (hw : WP τ) (hp : p < nP τ) (hj : ¬ (ir j 16 ∧ thr τ p j.toNatClampNeg)) : RD mX12_alter rmX12_alter [.int (nI p), .int j, .int w] τ (some (.int (-1))) (τ) := by
  intro M0 hW0
  refine am_of rfl rfl (ls := [some (.ref 25), some (.int (nI p)), some (.int j), some (.int w), none]) rfl ?_
  suffices HH : ∀ M, RO τ M0 M → AW mX12_alter rmX12_alter (fun r' M' => r' = (some (.int (-1))) ∧ RO (τ) M0 M') 0 [some (.ref 25), some (.int (nI p)), some (.int j), some (.int w), none] [] M 0 0 from HH M0 ⟨hW0, Off.rf M0⟩
  intro M hW
  have hn12 := hw.1.1
  have hwd := (hw.2 p hp).1
  have hhg := (hw.2 p hp).2
  have hip := ir_nI (n := nP τ) (by omega) hp
  refine aw_aload0 0 dX12_alter_0 ?_
  refine aw_iload1 1 dX12_alter_1 ?_
  refine rw_call1 2 dX12_alter_2 (c_X12_noPicture hw) ckV_RX12_146 cd_X12_noPicture rfl hW rfl (Nat.le_of_ble_eq_true rfl) ⟨⟨by decide, by decide⟩, by decide, by decide⟩ rfl (fun M hW => ?_)
  refine aw_ifne_b 5 17 dX12_alter_5 (by decide) (fun h5 => ?_) (fun h5 => ?_)
  · refine aw_icm1 17 dX12_alter_17 ?_
    refine aw_iret 18 dX12_alter_18 rfl (Nat.zero_le _) (Nat.zero_le _) ?_
    exact ⟨rfl, hW⟩
  · refine aw_aload0 8 dX12_alter_8 ?_
    refine aw_iload1 9 dX12_alter_9 ?_
    refine aw_iload2 10 dX12_alter_10 ?_
    refine rw_call1 11 dX12_alter_11 (c_X12_isThere hw hp) ckV_RX12_135 cd_X12_isThere rfl hW rfl (Nat.le_of_ble_eq_true rfl) ⟨⟨by decide, by decide⟩, by decide, by decide⟩ rfl (fun M hW => ?_)
    refine aw_ifne_b 14 19 dX12_alter_14 (by decide) (fun h14 => ?_) (fun h14 => ?_)
    · exact absurd h14 hj
    · refine aw_icm1 17 dX12_alter_17 ?_
      refine aw_iret 18 dX12_alter_18 rfl (Nat.zero_le _) (Nat.zero_le _) ?_
      exact ⟨rfl, hW⟩

set_option maxHeartbeats 4000000 in
set_option maxRecDepth 100000 in
theorem c_X12_alter {τ : TT} {p k : Nat} {v : Int32} (hw : WP τ) (hp : p < nP τ) (hk : k < 16) (ht : thr τ p k) : RD mX12_alter rmX12_alter [.int (nI p), .int (nI k), .int v] τ (some (.int (if irg v 0 99 then τ 4 (16 * p + k) else -2))) (if irg v 0 99 then tu τ 4 (16 * p + k) v else τ) := by
  intro M0 hW0
  refine am_of rfl rfl (ls := [some (.ref 25), some (.int (nI p)), some (.int (nI k)), some (.int v), none]) rfl ?_
  suffices HH : ∀ M, RO τ M0 M → AW mX12_alter rmX12_alter (fun r' M' => r' = (some (.int (if irg v 0 99 then τ 4 (16 * p + k) else -2))) ∧ RO (if irg v 0 99 then tu τ 4 (16 * p + k) v else τ) M0 M') 0 [some (.ref 25), some (.int (nI p)), some (.int (nI k)), some (.int v), none] [] M 0 0 from HH M0 ⟨hW0, Off.rf M0⟩
  intro M hW
  have hn12 := hw.1.1
  have hwd := (hw.2 p hp).1
  have hhg := (hw.2 p hp).2
  have hip := ir_nI (n := nP τ) (by omega) hp
  refine aw_aload0 0 dX12_alter_0 ?_
  refine aw_iload1 1 dX12_alter_1 ?_
  refine rw_call1 2 dX12_alter_2 (c_X12_noPicture hw) ckV_RX12_146 cd_X12_noPicture rfl hW rfl (Nat.le_of_ble_eq_true rfl) ⟨⟨by decide, by decide⟩, by decide, by decide⟩ rfl (fun M hW => ?_)
  refine aw_ifne_b 5 17 dX12_alter_5 (by decide) (fun h5 => ?_) (fun h5 => ?_)
  · first | exact absurd hip h5 | exact absurd ht h14
  · refine aw_aload0 8 dX12_alter_8 ?_
    refine aw_iload1 9 dX12_alter_9 ?_
    refine aw_iload2 10 dX12_alter_10 ?_
    refine rw_call1 11 dX12_alter_11 (c_isThereN hw hp hk) ckV_RX12_135 cd_X12_isThere rfl hW rfl (Nat.le_of_ble_eq_true rfl) ⟨⟨by decide, by decide⟩, by decide, by decide⟩ rfl (fun M hW => ?_)
    refine aw_ifne_b 14 19 dX12_alter_14 (by decide) (fun h14 => ?_) (fun h14 => ?_)
    · refine aw_iload3 19 dX12_alter_19 ?_
      refine aw_i2l 20 dX12_alter_20 ?_
      refine aw_lc0 21 dX12_alter_21 ?_
      refine aw_ldc2 22 (99) dX12_alter_22 ckL_RX12_126 ?_
      refine sd_call1 25 dX12_alter_25 (c_in2 (0) (99) (by decide) (by decide)) ckS_RX12_99 cd_X12_in rfl (Nat.le_of_ble_eq_true rfl) ⟨⟨by decide, by decide⟩, by decide, by decide⟩ rfl ?_
      refine aw_ifne_b 28 34 dX12_alter_28 (by decide) (fun h28 => ?_) (fun h28 => ?_)
      · refine aw_aload0 34 dX12_alter_34 ?_
        refine rw_ga 35 4 dX12_alter_35 ckF_RX12_16_12 (by decide) (by decide) hW ?_
        refine aw_bipush 38 16 dX12_alter_38 (by decide) ?_
        refine aw_iload1 40 dX12_alter_40 ?_
        refine aw_imulN 41 (16) (p) dX12_alter_41 rfl rfl ?_
        refine aw_iload2 42 dX12_alter_42 ?_
        refine aw_iaddN 43 (16 * p) (k) dX12_alter_43 rfl rfl ?_
        refine rw_ld 44 4 ((16 * p) + k) dX12_alter_44 hW rfl (show (16 * p) + k < 192 by omega) ?_
        refine aw_istore4 45 dX12_alter_45 rfl ?_
        refine aw_aload0 47 dX12_alter_47 ?_
        refine rw_ga 48 4 dX12_alter_48 ckF_RX12_16_12 (by decide) (by decide) hW ?_
        refine aw_bipush 51 16 dX12_alter_51 (by decide) ?_
        refine aw_iload1 53 dX12_alter_53 ?_
        refine aw_imulN 54 (16) (p) dX12_alter_54 rfl rfl ?_
        refine aw_iload2 55 dX12_alter_55 ?_
        refine aw_iaddN 56 (16 * p) (k) dX12_alter_56 rfl rfl ?_
        refine aw_iload3 57 dX12_alter_57 ?_
        refine rw_st 58 4 ((16 * p) + k) dX12_alter_58 hW rfl (show (16 * p) + k < 192 by omega) (fun M hW => ?_)
        refine aw_iload4 59 dX12_alter_59 ?_
        refine aw_iret 61 dX12_alter_61 rfl (Nat.zero_le _) (Nat.zero_le _) ?_
        refine ⟨?_, ?_⟩
        · first
            | (rw [if_pos h28]; done)
            | (rw [if_neg h28]; done)
        · first
            | (rw [if_pos h28]; exact hW)
            | (rw [if_neg h28]; exact hW)
      · refine aw_bipush 31 (-2) dX12_alter_31 (by decide) ?_
        refine aw_iret 33 dX12_alter_33 rfl (Nat.zero_le _) (Nat.zero_le _) ?_
        refine ⟨?_, ?_⟩
        · first
            | (rw [if_pos h28]; done)
            | (rw [if_neg h28]; done)
        · first
            | (rw [if_pos h28]; exact hW)
            | (rw [if_neg h28]; exact hW)
    · first | exact absurd hip h5 | exact absurd ht h14

def rmX12_lens : Room := { frames := 1, cells := 0, slots := 0, locals := 25 }
set_option maxHeartbeats 4000000 in
set_option maxRecDepth 100000 in
theorem c_X12_lens {τ : TT} {v : Int32} (hl : WL τ) : RD mX12_lens rmX12_lens [.int v] τ (some (.int (if irg v 1 9972 then if nL τ = 6 then -4 else nI (nL τ) else -2))) (if irg v 1 9972 ∧ ¬ nL τ = 6 then tu (tu (tu τ 14 (nL τ) v) 15 (nL τ) 1000) 13 0 (nI (nL τ + 1)) else τ) := by
  intro M0 hW0
  refine am_of rfl rfl (ls := [some (.ref 25), some (.int v)]) rfl ?_
  suffices HH : ∀ M, RO τ M0 M → AW mX12_lens rmX12_lens (fun r' M' => r' = (some (.int (if irg v 1 9972 then if nL τ = 6 then -4 else nI (nL τ) else -2))) ∧ RO (if irg v 1 9972 ∧ ¬ nL τ = 6 then tu (tu (tu τ 14 (nL τ) v) 15 (nL τ) 1000) 13 0 (nI (nL τ + 1)) else τ) M0 M') 0 [some (.ref 25), some (.int v)] [] M 0 0 from HH M0 ⟨hW0, Off.rf M0⟩
  intro M hW
  have hn6 := hl.1
  refine aw_iload1 0 dX12_lens_0 ?_
  refine aw_i2l 1 dX12_lens_1 ?_
  refine aw_lc1 2 dX12_lens_2 ?_
  refine aw_ldc2 3 (9972) dX12_lens_3 ckL_RX12_214 ?_
  refine sd_call1 6 dX12_lens_6 (c_in2 (1) (9972) (by decide) (by decide)) ckS_RX12_99 cd_X12_in rfl (Nat.le_of_ble_eq_true rfl) ⟨⟨by decide, by decide⟩, by decide, by decide⟩ rfl ?_
  refine aw_ifne_b 9 15 dX12_lens_9 (by decide) (fun h9 => ?_) (fun h9 => ?_)
  · refine aw_aload0 15 dX12_lens_15 ?_
    refine rw_gi 16 13 dX12_lens_16 ckF_RX12_211_12 (by decide) rfl hW ?_
    refine aw_topi (w := nI (nL τ)) (hl.2) ?_
    refine aw_bipush 19 6 dX12_lens_19 (by decide) ?_
    refine aw_icmp_neN 21 27 (nL τ) (6) dX12_lens_21 (by decide) rfl rfl (by omega) (by omega) (fun h21 => ?_) (fun h21 => ?_)
    · refine aw_aload0 27 dX12_lens_27 ?_
      refine rw_ga 28 14 dX12_lens_28 ckF_RX12_31_12 (by decide) (by decide) hW ?_
      refine aw_aload0 31 dX12_lens_31 ?_
      refine rw_gi 32 13 dX12_lens_32 ckF_RX12_211_12 (by decide) rfl hW ?_
      refine aw_topi (w := nI (nL τ)) (hl.2) ?_
      refine aw_iload1 35 dX12_lens_35 ?_
      refine rw_st 36 14 (nL τ) dX12_lens_36 hW rfl (show nL τ < 6 by omega) (fun M hW => ?_)
      refine aw_aload0 37 dX12_lens_37 ?_
      refine rw_ga 38 15 dX12_lens_38 ckF_RX12_34_12 (by decide) (by decide) hW ?_
      refine aw_aload0 41 dX12_lens_41 ?_
      refine rw_gi 42 13 dX12_lens_42 ckF_RX12_211_12 (by decide) rfl hW ?_
      refine aw_topi (w := nI (nL τ)) (hl.2) ?_
      refine aw_sipush 45 1000 dX12_lens_45 (by decide) ?_
      refine rw_st 48 15 (nL τ) dX12_lens_48 hW rfl (show nL τ < 6 by omega) (fun M hW => ?_)
      refine aw_aload0 49 dX12_lens_49 ?_
      refine aw_dup 50 dX12_lens_50 rfl ?_
      refine rw_gi 51 13 dX12_lens_51 ckF_RX12_211_12 (by decide) rfl hW ?_
      refine aw_topi (w := nI (nL τ)) (hl.2) ?_
      refine aw_ic1 54 dX12_lens_54 ?_
      refine aw_iaddN 55 (nL τ) (1) dX12_lens_55 rfl rfl ?_
      refine rw_pi 56 13 dX12_lens_56 ckF_RX12_211_12 ckP12_13 rfl (by decide) rfl hW (fun M hW => ?_)
      refine aw_aload0 59 dX12_lens_59 ?_
      refine rw_gi 60 13 dX12_lens_60 ckF_RX12_211_12 (by decide) rfl hW ?_
      refine aw_topi (w := nI (nL τ + 1)) (tu_at) ?_
      refine aw_ic1 63 dX12_lens_63 ?_
      refine aw_isubN 64 (nL τ + 1) (1) dX12_lens_64 rfl rfl (by omega) ?_
      refine aw_iret 65 dX12_lens_65 rfl (Nat.zero_le _) (Nat.zero_le _) ?_
      refine ⟨?_, ?_⟩
      · first
          | (rw [if_neg h9]; done)
          | (rw [if_pos h9, if_pos h21]; done)
          | (rw [if_pos h9, if_neg h21, show nL τ + 1 - 1 = nL τ by omega]; done)
      · first
          | (rw [if_neg (fun q => h9 q.1)]; exact hW)
          | (rw [if_neg (fun q => q.2 h21)]; exact hW)
          | (rw [if_pos ⟨h9, h21⟩]; exact hW)
    · refine aw_bipush 24 (-4) dX12_lens_24 (by decide) ?_
      refine aw_iret 26 dX12_lens_26 rfl (Nat.zero_le _) (Nat.zero_le _) ?_
      refine ⟨?_, ?_⟩
      · first
          | (rw [if_neg h9]; done)
          | (rw [if_pos h9, if_pos h21]; done)
          | (rw [if_pos h9, if_neg h21, show nL τ + 1 - 1 = nL τ by omega]; done)
      · first
          | (rw [if_neg (fun q => h9 q.1)]; exact hW)
          | (rw [if_neg (fun q => q.2 h21)]; exact hW)
          | (rw [if_pos ⟨h9, h21⟩]; exact hW)
  · refine aw_bipush 12 (-2) dX12_lens_12 (by decide) ?_
    refine aw_iret 14 dX12_lens_14 rfl (Nat.zero_le _) (Nat.zero_le _) ?_
    refine ⟨?_, ?_⟩
    · first
        | (rw [if_neg h9]; done)
        | (rw [if_pos h9, if_pos h21]; done)
        | (rw [if_pos h9, if_neg h21, show nL τ + 1 - 1 = nL τ by omega]; done)
    · first
        | (rw [if_neg (fun q => h9 q.1)]; exact hW)
        | (rw [if_neg (fun q => q.2 h21)]; exact hW)
        | (rw [if_pos ⟨h9, h21⟩]; exact hW)

def rmX12_steal : Room := { frames := 2, cells := 0, slots := 0, locals := 46 }
set_option maxHeartbeats 4000000 in
set_option maxRecDepth 100000 in
theorem n_X12_steal {τ : TT} {v w : Int32} (hl : WL τ) (hno : ¬ ir v (nL τ)) : RD mX12_steal rmX12_steal [.int v, .int w] τ (some (.int (-1))) (τ) := by
  intro M0 hW0
  refine am_of rfl rfl (ls := [some (.ref 25), some (.int v), some (.int w), none]) rfl ?_
  suffices HH : ∀ M, RO τ M0 M → AW mX12_steal rmX12_steal (fun r' M' => r' = (some (.int (-1))) ∧ RO (τ) M0 M') 0 [some (.ref 25), some (.int v), some (.int w), none] [] M 0 0 from HH M0 ⟨hW0, Off.rf M0⟩
  intro M hW
  refine aw_aload0 0 dX12_steal_0 ?_
  refine aw_iload1 1 dX12_steal_1 ?_
  refine rw_call1 2 dX12_steal_2 (c_X12_noLens hl) ckV_RX12_216 cd_X12_noLens rfl hW rfl (Nat.le_of_ble_eq_true rfl) ⟨⟨by decide, by decide⟩, by decide, by decide⟩ rfl (fun M hW => ?_)
  refine aw_ifeq_b 5 10 dX12_steal_5 (by decide) (fun h5 => ?_) (fun h5 => ?_)
  · exact absurd hno h5
  · refine aw_icm1 8 dX12_steal_8 ?_
    refine aw_iret 9 dX12_steal_9 rfl (Nat.zero_le _) (Nat.zero_le _) ?_
    exact ⟨rfl, hW⟩

set_option maxHeartbeats 4000000 in
set_option maxRecDepth 100000 in
theorem c_X12_steal {τ : TT} {l : Nat} {v : Int32} (hl : WL τ) (hll : l < nL τ) : RD mX12_steal rmX12_steal [.int (nI l), .int v] τ (some (.int (if irg v 0 1000 then τ 15 l else -2))) (if irg v 0 1000 then tu τ 15 l v else τ) := by
  intro M0 hW0
  refine am_of rfl rfl (ls := [some (.ref 25), some (.int (nI l)), some (.int v), none]) rfl ?_
  suffices HH : ∀ M, RO τ M0 M → AW mX12_steal rmX12_steal (fun r' M' => r' = (some (.int (if irg v 0 1000 then τ 15 l else -2))) ∧ RO (if irg v 0 1000 then tu τ 15 l v else τ) M0 M') 0 [some (.ref 25), some (.int (nI l)), some (.int v), none] [] M 0 0 from HH M0 ⟨hW0, Off.rf M0⟩
  intro M hW
  have hn6 := hl.1
  have hil := ir_nI (n := nL τ) (by omega) hll
  refine aw_aload0 0 dX12_steal_0 ?_
  refine aw_iload1 1 dX12_steal_1 ?_
  refine rw_call1 2 dX12_steal_2 (c_X12_noLens hl) ckV_RX12_216 cd_X12_noLens rfl hW rfl (Nat.le_of_ble_eq_true rfl) ⟨⟨by decide, by decide⟩, by decide, by decide⟩ rfl (fun M hW => ?_)
  refine aw_ifeq_b 5 10 dX12_steal_5 (by decide) (fun h5 => ?_) (fun h5 => ?_)
  · refine aw_iload2 10 dX12_steal_10 ?_
    refine aw_i2l 11 dX12_steal_11 ?_
    refine aw_lc0 12 dX12_steal_12 ?_
    refine aw_ldc2 13 (1000) dX12_steal_13 ckL_RX12_219 ?_
    refine sd_call1 16 dX12_steal_16 (c_in2 (0) (1000) (by decide) (by decide)) ckS_RX12_99 cd_X12_in rfl (Nat.le_of_ble_eq_true rfl) ⟨⟨by decide, by decide⟩, by decide, by decide⟩ rfl ?_
    refine aw_ifne_b 19 25 dX12_steal_19 (by decide) (fun h19 => ?_) (fun h19 => ?_)
    · refine aw_aload0 25 dX12_steal_25 ?_
      refine rw_ga 26 15 dX12_steal_26 ckF_RX12_34_12 (by decide) (by decide) hW ?_
      refine aw_iload1 29 dX12_steal_29 ?_
      refine rw_ld 30 15 (l) dX12_steal_30 hW rfl (show l < 6 by omega) ?_
      refine aw_istore3 31 dX12_steal_31 rfl ?_
      refine aw_aload0 32 dX12_steal_32 ?_
      refine rw_ga 33 15 dX12_steal_33 ckF_RX12_34_12 (by decide) (by decide) hW ?_
      refine aw_iload1 36 dX12_steal_36 ?_
      refine aw_iload2 37 dX12_steal_37 ?_
      refine rw_st 38 15 (l) dX12_steal_38 hW rfl (show l < 6 by omega) (fun M hW => ?_)
      refine aw_iload3 39 dX12_steal_39 ?_
      refine aw_iret 40 dX12_steal_40 rfl (Nat.zero_le _) (Nat.zero_le _) ?_
      refine ⟨?_, ?_⟩
      · first
          | (rw [if_pos h19]; done)
          | (rw [if_neg h19]; done)
      · first
          | (rw [if_pos h19]; exact hW)
          | (rw [if_neg h19]; exact hW)
    · refine aw_bipush 22 (-2) dX12_steal_22 (by decide) ?_
      refine aw_iret 24 dX12_steal_24 rfl (Nat.zero_le _) (Nat.zero_le _) ?_
      refine ⟨?_, ?_⟩
      · first
          | (rw [if_pos h19]; done)
          | (rw [if_neg h19]; done)
      · first
          | (rw [if_pos h19]; exact hW)
          | (rw [if_neg h19]; exact hW)
  · exact absurd hil h5

def rmX12_take : Room := { frames := 6, cells := 0, slots := 0, locals := 138 }
set_option maxHeartbeats 4000000 in
set_option maxRecDepth 100000 in
theorem n_X12_take {τ : TT} {v w h : Int32} (hw : WP τ) (hl : WL τ) (hno : ¬ ir v (nP τ) ∨ ¬ ir w (nL τ)) : RD mX12_take rmX12_take [.int v, .int w, .int h] τ (some (.int (-1))) (τ) := by
  intro M0 hW0
  refine am_of rfl rfl (ls := [some (.ref 25), some (.int v), some (.int w), some (.int h)]) rfl ?_
  suffices HH : ∀ M, RO τ M0 M → AW mX12_take rmX12_take (fun r' M' => r' = (some (.int (-1))) ∧ RO (τ) M0 M') 0 [some (.ref 25), some (.int v), some (.int w), some (.int h)] [] M 0 0 from HH M0 ⟨hW0, Off.rf M0⟩
  intro M hW
  refine aw_aload0 0 dX12_take_0 ?_
  refine aw_iload1 1 dX12_take_1 ?_
  refine rw_call1 2 dX12_take_2 (c_X12_noPicture hw) ckV_RX12_146 cd_X12_noPicture rfl hW rfl (Nat.le_of_ble_eq_true rfl) ⟨⟨by decide, by decide⟩, by decide, by decide⟩ rfl (fun M hW => ?_)
  refine aw_ifne_b 5 16 dX12_take_5 (by decide) (fun h5 => ?_) (fun h5 => ?_)
  · refine aw_icm1 16 dX12_take_16 ?_
    refine aw_iret 17 dX12_take_17 rfl (Nat.zero_le _) (Nat.zero_le _) ?_
    exact ⟨rfl, hW⟩
  · refine aw_aload0 8 dX12_take_8 ?_
    refine aw_iload2 9 dX12_take_9 ?_
    refine rw_call1 10 dX12_take_10 (c_X12_noLens hl) ckV_RX12_216 cd_X12_noLens rfl hW rfl (Nat.le_of_ble_eq_true rfl) ⟨⟨by decide, by decide⟩, by decide, by decide⟩ rfl (fun M hW => ?_)
    refine aw_ifeq_b 13 18 dX12_take_13 (by decide) (fun h13 => ?_) (fun h13 => ?_)
    · exact absurd hno (fun q => q.elim h5 h13)
    · refine aw_icm1 16 dX12_take_16 ?_
      refine aw_iret 17 dX12_take_17 rfl (Nat.zero_le _) (Nat.zero_le _) ?_
      exact ⟨rfl, hW⟩

set_option maxHeartbeats 4000000 in
set_option maxRecDepth 100000 in
theorem c_X12_take {τ : TT} {p l : Nat} {h : Int32} (hw : WP τ) (hp : p < nP τ) (hl : WL τ) (hll : l < nL τ) : RD mX12_take rmX12_take [.int (nI p), .int (nI l), .int h] τ (some (.int (if irg h 0 999 then if τ 16 p < 0 then slv τ p l h else -3 else -2))) (if irg h 0 999 ∧ τ 16 p < 0 then wrt τ p l 0 (-9) h else τ) := by
  intro M0 hW0
  refine am_of rfl rfl (ls := [some (.ref 25), some (.int (nI p)), some (.int (nI l)), some (.int h)]) rfl ?_
  suffices HH : ∀ M, RO τ M0 M → AW mX12_take rmX12_take (fun r' M' => r' = (some (.int (if irg h 0 999 then if τ 16 p < 0 then slv τ p l h else -3 else -2))) ∧ RO (if irg h 0 999 ∧ τ 16 p < 0 then wrt τ p l 0 (-9) h else τ) M0 M') 0 [some (.ref 25), some (.int (nI p)), some (.int (nI l)), some (.int h)] [] M 0 0 from HH M0 ⟨hW0, Off.rf M0⟩
  intro M hW
  have hn12 := hw.1.1
  have hwd := (hw.2 p hp).1
  have hhg := (hw.2 p hp).2
  have hip := ir_nI (n := nP τ) (by omega) hp
  have hn6 := hl.1
  have hil := ir_nI (n := nL τ) (by omega) hll
  refine aw_aload0 0 dX12_take_0 ?_
  refine aw_iload1 1 dX12_take_1 ?_
  refine rw_call1 2 dX12_take_2 (c_X12_noPicture hw) ckV_RX12_146 cd_X12_noPicture rfl hW rfl (Nat.le_of_ble_eq_true rfl) ⟨⟨by decide, by decide⟩, by decide, by decide⟩ rfl (fun M hW => ?_)
  refine aw_ifne_b 5 16 dX12_take_5 (by decide) (fun h5 => ?_) (fun h5 => ?_)
  · first | exact absurd hip h5 | exact absurd hil h13
  · refine aw_aload0 8 dX12_take_8 ?_
    refine aw_iload2 9 dX12_take_9 ?_
    refine rw_call1 10 dX12_take_10 (c_X12_noLens hl) ckV_RX12_216 cd_X12_noLens rfl hW rfl (Nat.le_of_ble_eq_true rfl) ⟨⟨by decide, by decide⟩, by decide, by decide⟩ rfl (fun M hW => ?_)
    refine aw_ifeq_b 13 18 dX12_take_13 (by decide) (fun h13 => ?_) (fun h13 => ?_)
    · refine aw_iload3 18 dX12_take_18 ?_
      refine sd_call1 19 dX12_take_19 (c_X12_isHour) ckS_RX12_224 cd_X12_isHour rfl (Nat.le_of_ble_eq_true rfl) ⟨⟨by decide, by decide⟩, by decide, by decide⟩ rfl ?_
      refine aw_ifne_b 22 28 dX12_take_22 (by decide) (fun h22 => ?_) (fun h22 => ?_)
      · refine aw_aload0 28 dX12_take_28 ?_
        refine aw_iload1 29 dX12_take_29 ?_
        refine rw_call1 30 dX12_take_30 (c_X12_noLine (by omega)) ckV_RX12_227 cd_X12_noLine rfl hW rfl (Nat.le_of_ble_eq_true rfl) ⟨⟨by decide, by decide⟩, by decide, by decide⟩ rfl (fun M hW => ?_)
        refine aw_ifeq_b 33 49 dX12_take_33 (by decide) (fun h33 => ?_) (fun h33 => ?_)
        · refine aw_bipush 49 (-3) dX12_take_49 (by decide) ?_
          refine aw_iret 51 dX12_take_51 rfl (Nat.zero_le _) (Nat.zero_le _) ?_
          refine ⟨?_, ?_⟩
          · first
              | (rw [if_neg h22]; done)
              | (rw [if_pos h22, if_pos h33]; done)
              | (rw [if_pos h22, if_neg h33]; done)
          · first
              | (rw [if_neg (fun q => h22 q.1)]; exact hW)
              | (rw [if_neg (fun q => h33 q.2)]; exact hW)
              | (rw [if_pos ⟨h22, h33⟩]; exact hW)
        · refine aw_aload0 36 dX12_take_36 ?_
          refine aw_iload1 37 dX12_take_37 ?_
          refine aw_ic0 38 dX12_take_38 ?_
          refine aw_bipush 39 (-9) dX12_take_39 (by decide) ?_
          refine aw_iload2 41 dX12_take_41 ?_
          refine aw_iload3 42 dX12_take_42 ?_
          refine rw_call1 43 dX12_take_43 (c_X12_write hw hp (by omega)) ckV_RX12_230 cd_X12_write rfl hW rfl (Nat.le_of_ble_eq_true rfl) ⟨⟨by decide, by decide⟩, by decide, by decide⟩ rfl (fun M hW => ?_)
          refine aw_goto 46 51 dX12_take_46 (by decide) ?_
          refine aw_iret 51 dX12_take_51 rfl (Nat.zero_le _) (Nat.zero_le _) ?_
          refine ⟨?_, ?_⟩
          · first
              | (rw [if_neg h22]; done)
              | (rw [if_pos h22, if_pos h33]; done)
              | (rw [if_pos h22, if_neg h33]; done)
          · first
              | (rw [if_neg (fun q => h22 q.1)]; exact hW)
              | (rw [if_neg (fun q => h33 q.2)]; exact hW)
              | (rw [if_pos ⟨h22, h33⟩]; exact hW)
      · refine aw_bipush 25 (-2) dX12_take_25 (by decide) ?_
        refine aw_iret 27 dX12_take_27 rfl (Nat.zero_le _) (Nat.zero_le _) ?_
        refine ⟨?_, ?_⟩
        · first
            | (rw [if_neg h22]; done)
            | (rw [if_pos h22, if_pos h33]; done)
            | (rw [if_pos h22, if_neg h33]; done)
        · first
            | (rw [if_neg (fun q => h22 q.1)]; exact hW)
            | (rw [if_neg (fun q => h33 q.2)]; exact hW)
            | (rw [if_pos ⟨h22, h33⟩]; exact hW)
    · first | exact absurd hip h5 | exact absurd hil h13

def rmX12_hush : Room := { frames := 6, cells := 0, slots := 0, locals := 138 }
set_option maxHeartbeats 4000000 in
set_option maxRecDepth 100000 in
theorem n_X12_hush {τ : TT} {v u w h : Int32} (hw : WP τ) (hl : WL τ) (hno : ¬ ir v (nP τ) ∨ ¬ ir u (nP τ) ∨ ¬ ir w (nL τ)) : RD mX12_hush rmX12_hush [.int v, .int u, .int w, .int h] τ (some (.int (-1))) (τ) := by
  intro M0 hW0
  refine am_of rfl rfl (ls := [some (.ref 25), some (.int v), some (.int u), some (.int w), some (.int h)]) rfl ?_
  suffices HH : ∀ M, RO τ M0 M → AW mX12_hush rmX12_hush (fun r' M' => r' = (some (.int (-1))) ∧ RO (τ) M0 M') 0 [some (.ref 25), some (.int v), some (.int u), some (.int w), some (.int h)] [] M 0 0 from HH M0 ⟨hW0, Off.rf M0⟩
  intro M hW
  refine aw_aload0 0 dX12_hush_0 ?_
  refine aw_iload1 1 dX12_hush_1 ?_
  refine rw_call1 2 dX12_hush_2 (c_X12_noPicture hw) ckV_RX12_146 cd_X12_noPicture rfl hW rfl (Nat.le_of_ble_eq_true rfl) ⟨⟨by decide, by decide⟩, by decide, by decide⟩ rfl (fun M hW => ?_)
  refine aw_ifne_b 5 24 dX12_hush_5 (by decide) (fun h5 => ?_) (fun h5 => ?_)
  · refine aw_icm1 24 dX12_hush_24 ?_
    refine aw_iret 25 dX12_hush_25 rfl (Nat.zero_le _) (Nat.zero_le _) ?_
    exact ⟨rfl, hW⟩
  · refine aw_aload0 8 dX12_hush_8 ?_
    refine aw_iload2 9 dX12_hush_9 ?_
    refine rw_call1 10 dX12_hush_10 (c_X12_noPicture hw) ckV_RX12_146 cd_X12_noPicture rfl hW rfl (Nat.le_of_ble_eq_true rfl) ⟨⟨by decide, by decide⟩, by decide, by decide⟩ rfl (fun M hW => ?_)
    refine aw_ifne_b 13 24 dX12_hush_13 (by decide) (fun h13 => ?_) (fun h13 => ?_)
    · refine aw_icm1 24 dX12_hush_24 ?_
      refine aw_iret 25 dX12_hush_25 rfl (Nat.zero_le _) (Nat.zero_le _) ?_
      exact ⟨rfl, hW⟩
    · refine aw_aload0 16 dX12_hush_16 ?_
      refine aw_iload3 17 dX12_hush_17 ?_
      refine rw_call1 18 dX12_hush_18 (c_X12_noLens hl) ckV_RX12_216 cd_X12_noLens rfl hW rfl (Nat.le_of_ble_eq_true rfl) ⟨⟨by decide, by decide⟩, by decide, by decide⟩ rfl (fun M hW => ?_)
      refine aw_ifeq_b 21 26 dX12_hush_21 (by decide) (fun h21 => ?_) (fun h21 => ?_)
      · exact absurd hno (fun q => q.elim h5 (fun q => q.elim h13 h21))
      · refine aw_icm1 24 dX12_hush_24 ?_
        refine aw_iret 25 dX12_hush_25 rfl (Nat.zero_le _) (Nat.zero_le _) ?_
        exact ⟨rfl, hW⟩

set_option maxHeartbeats 4000000 in
set_option maxRecDepth 100000 in
theorem c_X12_hush {τ : TT} {p f l : Nat} {h : Int32} (hw : WP τ) (hp : p < nP τ) (hl : WL τ) (hll : l < nL τ) (hf : f < nP τ) : RD mX12_hush rmX12_hush [.int (nI p), .int (nI f), .int (nI l), .int h] τ (some (.int (if irg h 0 999 then if τ 16 p < 0 ∧ f < p then slv τ p l h else -3 else -2))) (if irg h 0 999 ∧ τ 16 p < 0 ∧ f < p then wrt τ p l 2 (nI f) h else τ) := by
  intro M0 hW0
  refine am_of rfl rfl (ls := [some (.ref 25), some (.int (nI p)), some (.int (nI f)), some (.int (nI l)), some (.int h)]) rfl ?_
  suffices HH : ∀ M, RO τ M0 M → AW mX12_hush rmX12_hush (fun r' M' => r' = (some (.int (if irg h 0 999 then if τ 16 p < 0 ∧ f < p then slv τ p l h else -3 else -2))) ∧ RO (if irg h 0 999 ∧ τ 16 p < 0 ∧ f < p then wrt τ p l 2 (nI f) h else τ) M0 M') 0 [some (.ref 25), some (.int (nI p)), some (.int (nI f)), some (.int (nI l)), some (.int h)] [] M 0 0 from HH M0 ⟨hW0, Off.rf M0⟩
  intro M hW
  have hn12 := hw.1.1
  have hwd := (hw.2 p hp).1
  have hhg := (hw.2 p hp).2
  have hip := ir_nI (n := nP τ) (by omega) hp
  have hn6 := hl.1
  have hil := ir_nI (n := nL τ) (by omega) hll
  have hif := ir_nI (n := nP τ) (by omega) hf
  refine aw_aload0 0 dX12_hush_0 ?_
  refine aw_iload1 1 dX12_hush_1 ?_
  refine rw_call1 2 dX12_hush_2 (c_X12_noPicture hw) ckV_RX12_146 cd_X12_noPicture rfl hW rfl (Nat.le_of_ble_eq_true rfl) ⟨⟨by decide, by decide⟩, by decide, by decide⟩ rfl (fun M hW => ?_)
  refine aw_ifne_b 5 24 dX12_hush_5 (by decide) (fun h5 => ?_) (fun h5 => ?_)
  · first | exact absurd hip h5 | exact absurd hif h13 | exact absurd hil h21
  · refine aw_aload0 8 dX12_hush_8 ?_
    refine aw_iload2 9 dX12_hush_9 ?_
    refine rw_call1 10 dX12_hush_10 (c_X12_noPicture hw) ckV_RX12_146 cd_X12_noPicture rfl hW rfl (Nat.le_of_ble_eq_true rfl) ⟨⟨by decide, by decide⟩, by decide, by decide⟩ rfl (fun M hW => ?_)
    refine aw_ifne_b 13 24 dX12_hush_13 (by decide) (fun h13 => ?_) (fun h13 => ?_)
    · first | exact absurd hip h5 | exact absurd hif h13 | exact absurd hil h21
    · refine aw_aload0 16 dX12_hush_16 ?_
      refine aw_iload3 17 dX12_hush_17 ?_
      refine rw_call1 18 dX12_hush_18 (c_X12_noLens hl) ckV_RX12_216 cd_X12_noLens rfl hW rfl (Nat.le_of_ble_eq_true rfl) ⟨⟨by decide, by decide⟩, by decide, by decide⟩ rfl (fun M hW => ?_)
      refine aw_ifeq_b 21 26 dX12_hush_21 (by decide) (fun h21 => ?_) (fun h21 => ?_)
      · refine aw_iload4 26 dX12_hush_26 ?_
        refine sd_call1 28 dX12_hush_28 (c_X12_isHour) ckS_RX12_224 cd_X12_isHour rfl (Nat.le_of_ble_eq_true rfl) ⟨⟨by decide, by decide⟩, by decide, by decide⟩ rfl ?_
        refine aw_ifne_b 31 37 dX12_hush_31 (by decide) (fun h31 => ?_) (fun h31 => ?_)
        · refine aw_aload0 37 dX12_hush_37 ?_
          refine aw_iload1 38 dX12_hush_38 ?_
          refine rw_call1 39 dX12_hush_39 (c_X12_noLine (by omega)) ckV_RX12_227 cd_X12_noLine rfl hW rfl (Nat.le_of_ble_eq_true rfl) ⟨⟨by decide, by decide⟩, by decide, by decide⟩ rfl (fun M hW => ?_)
          refine aw_ifeq_b 42 63 dX12_hush_42 (by decide) (fun h42 => ?_) (fun h42 => ?_)
          · refine aw_bipush 63 (-3) dX12_hush_63 (by decide) ?_
            refine aw_iret 65 dX12_hush_65 rfl (Nat.zero_le _) (Nat.zero_le _) ?_
            refine ⟨?_, ?_⟩
            · first
                | (rw [if_neg h31]; done)
                | (rw [if_pos h31, if_neg (fun q => h42 q.1)]; done)
                | (rw [if_pos h31, if_neg (fun q => by have := q.2; omega)]; done)
                | (rw [if_pos h31, if_pos ⟨h42, h47⟩]; done)
            · first
                | (rw [if_neg (fun q => h31 q.1)]; exact hW)
                | (rw [if_neg (fun q => h42 q.2.1)]; exact hW)
                | (rw [if_neg (fun q => by have := q.2.2; omega)]; exact hW)
                | (rw [if_pos ⟨h31, h42, h47⟩]; exact hW)
          · refine aw_iload2 45 dX12_hush_45 ?_
            refine aw_iload1 46 dX12_hush_46 ?_
            refine aw_icmp_geN 47 63 (f) (p) dX12_hush_47 (by decide) rfl rfl (by omega) (by omega) (fun h47 => ?_) (fun h47 => ?_)
            · refine aw_bipush 63 (-3) dX12_hush_63 (by decide) ?_
              refine aw_iret 65 dX12_hush_65 rfl (Nat.zero_le _) (Nat.zero_le _) ?_
              refine ⟨?_, ?_⟩
              · first
                  | (rw [if_neg h31]; done)
                  | (rw [if_pos h31, if_neg (fun q => h42 q.1)]; done)
                  | (rw [if_pos h31, if_neg (fun q => by have := q.2; omega)]; done)
                  | (rw [if_pos h31, if_pos ⟨h42, h47⟩]; done)
              · first
                  | (rw [if_neg (fun q => h31 q.1)]; exact hW)
                  | (rw [if_neg (fun q => h42 q.2.1)]; exact hW)
                  | (rw [if_neg (fun q => by have := q.2.2; omega)]; exact hW)
                  | (rw [if_pos ⟨h31, h42, h47⟩]; exact hW)
            · refine aw_aload0 50 dX12_hush_50 ?_
              refine aw_iload1 51 dX12_hush_51 ?_
              refine aw_ic2 52 dX12_hush_52 ?_
              refine aw_iload2 53 dX12_hush_53 ?_
              refine aw_iload3 54 dX12_hush_54 ?_
              refine aw_iload4 55 dX12_hush_55 ?_
              refine rw_call1 57 dX12_hush_57 (c_X12_write hw hp (by omega)) ckV_RX12_230 cd_X12_write rfl hW rfl (Nat.le_of_ble_eq_true rfl) ⟨⟨by decide, by decide⟩, by decide, by decide⟩ rfl (fun M hW => ?_)
              refine aw_goto 60 65 dX12_hush_60 (by decide) ?_
              refine aw_iret 65 dX12_hush_65 rfl (Nat.zero_le _) (Nat.zero_le _) ?_
              refine ⟨?_, ?_⟩
              · first
                  | (rw [if_neg h31]; done)
                  | (rw [if_pos h31, if_neg (fun q => h42 q.1)]; done)
                  | (rw [if_pos h31, if_neg (fun q => by have := q.2; omega)]; done)
                  | (rw [if_pos h31, if_pos ⟨h42, h47⟩]; done)
              · first
                  | (rw [if_neg (fun q => h31 q.1)]; exact hW)
                  | (rw [if_neg (fun q => h42 q.2.1)]; exact hW)
                  | (rw [if_neg (fun q => by have := q.2.2; omega)]; exact hW)
                  | (rw [if_pos ⟨h31, h42, h47⟩]; exact hW)
        · refine aw_bipush 34 (-2) dX12_hush_34 (by decide) ?_
          refine aw_iret 36 dX12_hush_36 rfl (Nat.zero_le _) (Nat.zero_le _) ?_
          refine ⟨?_, ?_⟩
          · first
              | (rw [if_neg h31]; done)
              | (rw [if_pos h31, if_neg (fun q => h42 q.1)]; done)
              | (rw [if_pos h31, if_neg (fun q => by have := q.2; omega)]; done)
              | (rw [if_pos h31, if_pos ⟨h42, h47⟩]; done)
          · first
              | (rw [if_neg (fun q => h31 q.1)]; exact hW)
              | (rw [if_neg (fun q => h42 q.2.1)]; exact hW)
              | (rw [if_neg (fun q => by have := q.2.2; omega)]; exact hW)
              | (rw [if_pos ⟨h31, h42, h47⟩]; exact hW)
      · first | exact absurd hip h5 | exact absurd hif h13 | exact absurd hil h21

def rmX12_tear : Room := { frames := 2, cells := 0, slots := 0, locals := 46 }
set_option maxHeartbeats 4000000 in
set_option maxRecDepth 100000 in
theorem n_X12_tear {τ : TT} {v : Int32} (hw : WP τ) (hno : ¬ ir v (nP τ)) : RD mX12_tear rmX12_tear [.int v] τ (some (.int (-1))) (τ) := by
  intro M0 hW0
  refine am_of rfl rfl (ls := [some (.ref 25), some (.int v), none]) rfl ?_
  suffices HH : ∀ M, RO τ M0 M → AW mX12_tear rmX12_tear (fun r' M' => r' = (some (.int (-1))) ∧ RO (τ) M0 M') 0 [some (.ref 25), some (.int v), none] [] M 0 0 from HH M0 ⟨hW0, Off.rf M0⟩
  intro M hW
  refine aw_aload0 0 dX12_tear_0 ?_
  refine aw_iload1 1 dX12_tear_1 ?_
  refine rw_call1 2 dX12_tear_2 (c_X12_noPicture hw) ckV_RX12_146 cd_X12_noPicture rfl hW rfl (Nat.le_of_ble_eq_true rfl) ⟨⟨by decide, by decide⟩, by decide, by decide⟩ rfl (fun M hW => ?_)
  refine aw_ifeq_b 5 10 dX12_tear_5 (by decide) (fun h5 => ?_) (fun h5 => ?_)
  · exact absurd hno h5
  · refine aw_icm1 8 dX12_tear_8 ?_
    refine aw_iret 9 dX12_tear_9 rfl (Nat.zero_le _) (Nat.zero_le _) ?_
    exact ⟨rfl, hW⟩

def rmX12_line : Room := { frames := 2, cells := 0, slots := 0, locals := 46 }
set_option maxHeartbeats 4000000 in
set_option maxRecDepth 100000 in
theorem n_X12_line {τ : TT} {v w : Int32} (hw : WP τ) (hno : ¬ ir v (nP τ)) : RD mX12_line rmX12_line [.int v, .int w] τ (some (.int (-1))) (τ) := by
  intro M0 hW0
  refine am_of rfl rfl (ls := [some (.ref 25), some (.int v), some (.int w)]) rfl ?_
  suffices HH : ∀ M, RO τ M0 M → AW mX12_line rmX12_line (fun r' M' => r' = (some (.int (-1))) ∧ RO (τ) M0 M') 0 [some (.ref 25), some (.int v), some (.int w)] [] M 0 0 from HH M0 ⟨hW0, Off.rf M0⟩
  intro M hW
  refine aw_aload0 0 dX12_line_0 ?_
  refine aw_iload1 1 dX12_line_1 ?_
  refine rw_call1 2 dX12_line_2 (c_X12_noPicture hw) ckV_RX12_146 cd_X12_noPicture rfl hW rfl (Nat.le_of_ble_eq_true rfl) ⟨⟨by decide, by decide⟩, by decide, by decide⟩ rfl (fun M hW => ?_)
  refine aw_ifeq_b 5 10 dX12_line_5 (by decide) (fun h5 => ?_) (fun h5 => ?_)
  · exact absurd hno h5
  · refine aw_icm1 8 dX12_line_8 ?_
    refine aw_iret 9 dX12_line_9 rfl (Nat.zero_le _) (Nat.zero_le _) ?_
    exact ⟨rfl, hW⟩

def rmX12_coarse : Room := { frames := 2, cells := 0, slots := 0, locals := 46 }
set_option maxHeartbeats 4000000 in
set_option maxRecDepth 100000 in
theorem n_X12_coarse {τ : TT} {v w : Int32} (hw : WP τ) (hno : ¬ ir v (nP τ)) : RD mX12_coarse rmX12_coarse [.int v, .int w] τ (some (.int (-1))) (τ) := by
  intro M0 hW0
  refine am_of rfl rfl (ls := [some (.ref 25), some (.int v), some (.int w)]) rfl ?_
  suffices HH : ∀ M, RO τ M0 M → AW mX12_coarse rmX12_coarse (fun r' M' => r' = (some (.int (-1))) ∧ RO (τ) M0 M') 0 [some (.ref 25), some (.int v), some (.int w)] [] M 0 0 from HH M0 ⟨hW0, Off.rf M0⟩
  intro M hW
  refine aw_aload0 0 dX12_coarse_0 ?_
  refine aw_iload1 1 dX12_coarse_1 ?_
  refine rw_call1 2 dX12_coarse_2 (c_X12_noPicture hw) ckV_RX12_146 cd_X12_noPicture rfl hW rfl (Nat.le_of_ble_eq_true rfl) ⟨⟨by decide, by decide⟩, by decide, by decide⟩ rfl (fun M hW => ?_)
  refine aw_ifeq_b 5 10 dX12_coarse_5 (by decide) (fun h5 => ?_) (fun h5 => ?_)
  · exact absurd hno h5
  · refine aw_icm1 8 dX12_coarse_8 ?_
    refine aw_iret 9 dX12_coarse_9 rfl (Nat.zero_le _) (Nat.zero_le _) ?_
    exact ⟨rfl, hW⟩

def rmX12_found : Room := { frames := 3, cells := 0, slots := 0, locals := 69 }
set_option maxHeartbeats 4000000 in
set_option maxRecDepth 100000 in
theorem n_X12_found {τ : TT} {v w : Int32} (hw : WP τ) (hno : ¬ ir v (nP τ)) : RD mX12_found rmX12_found [.int v, .int w] τ (some (.int (-1))) (τ) := by
  intro M0 hW0
  refine am_of rfl rfl (ls := [some (.ref 25), some (.int v), some (.int w)]) rfl ?_
  suffices HH : ∀ M, RO τ M0 M → AW mX12_found rmX12_found (fun r' M' => r' = (some (.int (-1))) ∧ RO (τ) M0 M') 0 [some (.ref 25), some (.int v), some (.int w)] [] M 0 0 from HH M0 ⟨hW0, Off.rf M0⟩
  intro M hW
  refine aw_aload0 0 dX12_found_0 ?_
  refine aw_iload1 1 dX12_found_1 ?_
  refine rw_call1 2 dX12_found_2 (c_X12_noPicture hw) ckV_RX12_146 cd_X12_noPicture rfl hW rfl (Nat.le_of_ble_eq_true rfl) ⟨⟨by decide, by decide⟩, by decide, by decide⟩ rfl (fun M hW => ?_)
  refine aw_ifeq_b 5 10 dX12_found_5 (by decide) (fun h5 => ?_) (fun h5 => ?_)
  · exact absurd hno h5
  · refine aw_icm1 8 dX12_found_8 ?_
    refine aw_iret 9 dX12_found_9 rfl (Nat.zero_le _) (Nat.zero_le _) ?_
    exact ⟨rfl, hW⟩

def rmX12_look : Room := { frames := 2, cells := 0, slots := 0, locals := 46 }
set_option maxHeartbeats 4000000 in
set_option maxRecDepth 100000 in
theorem n_X12_look {τ : TT} {v w u : Int32} (hw : WP τ) (hno : ¬ ir v (nP τ)) : RD mX12_look rmX12_look [.int v, .int w, .int u] τ (some (.int (-1))) (τ) := by
  intro M0 hW0
  refine am_of rfl rfl (ls := [some (.ref 25), some (.int v), some (.int w), some (.int u)]) rfl ?_
  suffices HH : ∀ M, RO τ M0 M → AW mX12_look rmX12_look (fun r' M' => r' = (some (.int (-1))) ∧ RO (τ) M0 M') 0 [some (.ref 25), some (.int v), some (.int w), some (.int u)] [] M 0 0 from HH M0 ⟨hW0, Off.rf M0⟩
  intro M hW
  refine aw_aload0 0 dX12_look_0 ?_
  refine aw_iload1 1 dX12_look_1 ?_
  refine rw_call1 2 dX12_look_2 (c_X12_noPicture hw) ckV_RX12_146 cd_X12_noPicture rfl hW rfl (Nat.le_of_ble_eq_true rfl) ⟨⟨by decide, by decide⟩, by decide, by decide⟩ rfl (fun M hW => ?_)
  refine aw_ifeq_b 5 10 dX12_look_5 (by decide) (fun h5 => ?_) (fun h5 => ?_)
  · exact absurd hno h5
  · refine aw_icm1 8 dX12_look_8 ?_
    refine aw_iret 9 dX12_look_9 rfl (Nat.zero_le _) (Nat.zero_le _) ?_
    exact ⟨rfl, hW⟩

def rmX12_tell : Room := { frames := 2, cells := 0, slots := 0, locals := 46 }
set_option maxHeartbeats 4000000 in
set_option maxRecDepth 100000 in
theorem n_X12_tell {τ : TT} {v : Int32} (hw : WP τ) (hno : ¬ ir v (nP τ)) : RD mX12_tell rmX12_tell [.int v] τ (some (.int (-1))) (τ) := by
  intro M0 hW0
  refine am_of rfl rfl (ls := [some (.ref 25), some (.int v), none]) rfl ?_
  suffices HH : ∀ M, RO τ M0 M → AW mX12_tell rmX12_tell (fun r' M' => r' = (some (.int (-1))) ∧ RO (τ) M0 M') 0 [some (.ref 25), some (.int v), none] [] M 0 0 from HH M0 ⟨hW0, Off.rf M0⟩
  intro M hW
  refine aw_aload0 0 dX12_tell_0 ?_
  refine aw_iload1 1 dX12_tell_1 ?_
  refine rw_call1 2 dX12_tell_2 (c_X12_noPicture hw) ckV_RX12_146 cd_X12_noPicture rfl hW rfl (Nat.le_of_ble_eq_true rfl) ⟨⟨by decide, by decide⟩, by decide, by decide⟩ rfl (fun M hW => ?_)
  refine aw_ifeq_b 5 10 dX12_tell_5 (by decide) (fun h5 => ?_) (fun h5 => ?_)
  · exact absurd hno h5
  · refine aw_icm1 8 dX12_tell_8 ?_
    refine aw_iret 9 dX12_tell_9 rfl (Nat.zero_le _) (Nat.zero_le _) ?_
    exact ⟨rfl, hW⟩

def rmX12_show : Room := { frames := 2, cells := 0, slots := 0, locals := 46 }
set_option maxHeartbeats 4000000 in
set_option maxRecDepth 100000 in
theorem n_X12_show {τ : TT} {v : Int32} (hw : WP τ) (hno : ¬ ir v (nP τ)) : RD mX12_show rmX12_show [.int v] τ (some (.int (-1))) (τ) := by
  intro M0 hW0
  refine am_of rfl rfl (ls := [some (.ref 25), some (.int v)]) rfl ?_
  suffices HH : ∀ M, RO τ M0 M → AW mX12_show rmX12_show (fun r' M' => r' = (some (.int (-1))) ∧ RO (τ) M0 M') 0 [some (.ref 25), some (.int v)] [] M 0 0 from HH M0 ⟨hW0, Off.rf M0⟩
  intro M hW
  refine aw_aload0 0 dX12_show_0 ?_
  refine aw_iload1 1 dX12_show_1 ?_
  refine rw_call1 2 dX12_show_2 (c_X12_noPicture hw) ckV_RX12_146 cd_X12_noPicture rfl hW rfl (Nat.le_of_ble_eq_true rfl) ⟨⟨by decide, by decide⟩, by decide, by decide⟩ rfl (fun M hW => ?_)
  refine aw_ifeq_b 5 10 dX12_show_5 (by decide) (fun h5 => ?_) (fun h5 => ?_)
  · exact absurd hno h5
  · refine aw_icm1 8 dX12_show_8 ?_
    refine aw_iret 9 dX12_show_9 rfl (Nat.zero_le _) (Nat.zero_le _) ?_
    exact ⟨rfl, hW⟩

set_option maxHeartbeats 4000000 in
set_option maxRecDepth 100000 in
theorem c_X12_tear {τ : TT} {p : Nat} (hw : WP τ) (hp : p < nP τ) : RD mX12_tear rmX12_tear [.int (nI p)] τ (some (.int (if τ 16 p < 0 then 0 else 1))) (tu τ 16 p (-9)) := by
  intro M0 hW0
  refine am_of rfl rfl (ls := [some (.ref 25), some (.int (nI p)), none]) rfl ?_
  suffices HH : ∀ M, RO τ M0 M → AW mX12_tear rmX12_tear (fun r' M' => r' = (some (.int (if τ 16 p < 0 then 0 else 1))) ∧ RO (tu τ 16 p (-9)) M0 M') 0 [some (.ref 25), some (.int (nI p)), none] [] M 0 0 from HH M0 ⟨hW0, Off.rf M0⟩
  intro M hW
  have hn12 := hw.1.1
  have hwd := (hw.2 p hp).1
  have hhg := (hw.2 p hp).2
  have hip := ir_nI (n := nP τ) (by omega) hp
  refine aw_aload0 0 dX12_tear_0 ?_
  refine aw_iload1 1 dX12_tear_1 ?_
  refine rw_call1 2 dX12_tear_2 (c_X12_noPicture hw) ckV_RX12_146 cd_X12_noPicture rfl hW rfl (Nat.le_of_ble_eq_true rfl) ⟨⟨by decide, by decide⟩, by decide, by decide⟩ rfl (fun M hW => ?_)
  refine aw_ifeq_b 5 10 dX12_tear_5 (by decide) (fun h5 => ?_) (fun h5 => ?_)
  · refine aw_aload0 10 dX12_tear_10 ?_
    refine aw_iload1 11 dX12_tear_11 ?_
    refine rw_call1 12 dX12_tear_12 (c_X12_noLine (by omega)) ckV_RX12_227 cd_X12_noLine rfl hW rfl (Nat.le_of_ble_eq_true rfl) ⟨⟨by decide, by decide⟩, by decide, by decide⟩ rfl (fun M hW => ?_)
    refine aw_ifeq_b 15 22 dX12_tear_15 (by decide) (fun h15 => ?_) (fun h15 => ?_)
    · refine aw_ic1 22 dX12_tear_22 ?_
      refine aw_istore2 23 dX12_tear_23 rfl ?_
      refine aw_aload0 24 dX12_tear_24 ?_
      refine rw_ga 25 16 dX12_tear_25 ckF_RX12_37_12 (by decide) (by decide) hW ?_
      refine aw_iload1 28 dX12_tear_28 ?_
      refine aw_bipush 29 (-9) dX12_tear_29 (by decide) ?_
      refine rw_st 31 16 (p) dX12_tear_31 hW rfl (show p < 12 by omega) (fun M hW => ?_)
      refine aw_iload2 32 dX12_tear_32 ?_
      refine aw_iret 33 dX12_tear_33 rfl (Nat.zero_le _) (Nat.zero_le _) ?_
      exact ⟨by first | (rw [if_pos h15]; done) | (rw [if_neg h15]; done), hW⟩
    · refine aw_ic0 18 dX12_tear_18 ?_
      refine aw_goto 19 23 dX12_tear_19 (by decide) ?_
      refine aw_istore2 23 dX12_tear_23 rfl ?_
      refine aw_aload0 24 dX12_tear_24 ?_
      refine rw_ga 25 16 dX12_tear_25 ckF_RX12_37_12 (by decide) (by decide) hW ?_
      refine aw_iload1 28 dX12_tear_28 ?_
      refine aw_bipush 29 (-9) dX12_tear_29 (by decide) ?_
      refine rw_st 31 16 (p) dX12_tear_31 hW rfl (show p < 12 by omega) (fun M hW => ?_)
      refine aw_iload2 32 dX12_tear_32 ?_
      refine aw_iret 33 dX12_tear_33 rfl (Nat.zero_le _) (Nat.zero_le _) ?_
      exact ⟨by first | (rw [if_pos h15]; done) | (rw [if_neg h15]; done), hW⟩
  · exact absurd hip h5

def sLn (τ : TT) (p : Nat) (w : Int32) : Int32 := if irg w 0 5 then if τ 16 p < 0 then -3 else if w = 0 then τ 16 p else if w = 1 then τ 17 p else if w = 2 then τ 18 p else if w = 3 then τ 19 p else if w = 4 then τ 20 p else τ 21 p else -2

set_option maxHeartbeats 4000000 in
set_option maxRecDepth 100000 in
theorem c_X12_line {τ : TT} {p : Nat} {w : Int32} (hw : WP τ) (hp : p < nP τ) : RD mX12_line rmX12_line [.int (nI p), .int w] τ (some (.int (sLn τ p w))) (τ) := by
  intro M0 hW0
  refine am_of rfl rfl (ls := [some (.ref 25), some (.int (nI p)), some (.int w)]) rfl ?_
  suffices HH : ∀ M, RO τ M0 M → AW mX12_line rmX12_line (fun r' M' => r' = (some (.int (sLn τ p w))) ∧ RO (τ) M0 M') 0 [some (.ref 25), some (.int (nI p)), some (.int w)] [] M 0 0 from HH M0 ⟨hW0, Off.rf M0⟩
  intro M hW
  have hn12 := hw.1.1
  have hwd := (hw.2 p hp).1
  have hhg := (hw.2 p hp).2
  have hip := ir_nI (n := nP τ) (by omega) hp
  refine aw_aload0 0 dX12_line_0 ?_
  refine aw_iload1 1 dX12_line_1 ?_
  refine rw_call1 2 dX12_line_2 (c_X12_noPicture hw) ckV_RX12_146 cd_X12_noPicture rfl hW rfl (Nat.le_of_ble_eq_true rfl) ⟨⟨by decide, by decide⟩, by decide, by decide⟩ rfl (fun M hW => ?_)
  refine aw_ifeq_b 5 10 dX12_line_5 (by decide) (fun h5 => ?_) (fun h5 => ?_)
  · refine aw_iload2 10 dX12_line_10 ?_
    refine aw_i2l 11 dX12_line_11 ?_
    refine aw_lc0 12 dX12_line_12 ?_
    refine aw_ldc2 13 (5) dX12_line_13 ckL_RX12_234 ?_
    refine sd_call1 16 dX12_line_16 (c_in2 (0) (5) (by decide) (by decide)) ckS_RX12_99 cd_X12_in rfl (Nat.le_of_ble_eq_true rfl) ⟨⟨by decide, by decide⟩, by decide, by decide⟩ rfl ?_
    refine aw_ifne_b 19 25 dX12_line_19 (by decide) (fun h19 => ?_) (fun h19 => ?_)
    · refine aw_aload0 25 dX12_line_25 ?_
      refine aw_iload1 26 dX12_line_26 ?_
      refine rw_call1 27 dX12_line_27 (c_X12_noLine (by omega)) ckV_RX12_227 cd_X12_noLine rfl hW rfl (Nat.le_of_ble_eq_true rfl) ⟨⟨by decide, by decide⟩, by decide, by decide⟩ rfl (fun M hW => ?_)
      refine aw_ifeq_b 30 36 dX12_line_30 (by decide) (fun h30 => ?_) (fun h30 => ?_)
      · refine aw_iload2 36 dX12_line_36 ?_
        by_cases hs0 : w = 0
        · subst hs0
          refine aw_tabIn 37 72 dX12_line_37 (by decide) (by decide) rfl (by decide) ?_
          refine aw_aload0 72 dX12_line_72 ?_
          refine rw_ga 73 16 dX12_line_73 ckF_RX12_37_12 (by decide) (by decide) hW ?_
          refine aw_iload1 76 dX12_line_76 ?_
          refine rw_ld 77 16 (p) dX12_line_77 hW rfl (show p < 12 by omega) ?_
          refine aw_iret 78 dX12_line_78 rfl (Nat.zero_le _) (Nat.zero_le _) ?_
          refine ⟨?_, hW⟩
          unfold sLn
          first
            | (rw [if_neg h19]; done)
            | (rw [if_pos h19, if_pos h30]; done)
            | (rw [if_pos h19, if_neg h30, if_pos rfl]; done)
            | (rw [if_pos h19, if_neg h30, if_neg (by decide), if_pos rfl]; done)
            | (rw [if_pos h19, if_neg h30, if_neg (by decide), if_neg (by decide), if_pos rfl]; done)
            | (rw [if_pos h19, if_neg h30, if_neg (by decide), if_neg (by decide), if_neg (by decide), if_pos rfl]; done)
            | (rw [if_pos h19, if_neg h30, if_neg (by decide), if_neg (by decide), if_neg (by decide), if_neg (by decide), if_pos rfl]; done)
            | (rw [if_pos h19, if_neg h30, if_neg hs0, if_neg hs1, if_neg hs2, if_neg hs3, if_neg hs4]; done)
        by_cases hs1 : w = 1
        · subst hs1
          refine aw_tabIn 37 79 dX12_line_37 (by decide) (by decide) rfl (by decide) ?_
          refine aw_aload0 79 dX12_line_79 ?_
          refine rw_ga 80 17 dX12_line_80 ckF_RX12_40_12 (by decide) (by decide) hW ?_
          refine aw_iload1 83 dX12_line_83 ?_
          refine rw_ld 84 17 (p) dX12_line_84 hW rfl (show p < 12 by omega) ?_
          refine aw_iret 85 dX12_line_85 rfl (Nat.zero_le _) (Nat.zero_le _) ?_
          refine ⟨?_, hW⟩
          unfold sLn
          first
            | (rw [if_neg h19]; done)
            | (rw [if_pos h19, if_pos h30]; done)
            | (rw [if_pos h19, if_neg h30, if_pos rfl]; done)
            | (rw [if_pos h19, if_neg h30, if_neg (by decide), if_pos rfl]; done)
            | (rw [if_pos h19, if_neg h30, if_neg (by decide), if_neg (by decide), if_pos rfl]; done)
            | (rw [if_pos h19, if_neg h30, if_neg (by decide), if_neg (by decide), if_neg (by decide), if_pos rfl]; done)
            | (rw [if_pos h19, if_neg h30, if_neg (by decide), if_neg (by decide), if_neg (by decide), if_neg (by decide), if_pos rfl]; done)
            | (rw [if_pos h19, if_neg h30, if_neg hs0, if_neg hs1, if_neg hs2, if_neg hs3, if_neg hs4]; done)
        by_cases hs2 : w = 2
        · subst hs2
          refine aw_tabIn 37 86 dX12_line_37 (by decide) (by decide) rfl (by decide) ?_
          refine aw_aload0 86 dX12_line_86 ?_
          refine rw_ga 87 18 dX12_line_87 ckF_RX12_43_12 (by decide) (by decide) hW ?_
          refine aw_iload1 90 dX12_line_90 ?_
          refine rw_ld 91 18 (p) dX12_line_91 hW rfl (show p < 12 by omega) ?_
          refine aw_iret 92 dX12_line_92 rfl (Nat.zero_le _) (Nat.zero_le _) ?_
          refine ⟨?_, hW⟩
          unfold sLn
          first
            | (rw [if_neg h19]; done)
            | (rw [if_pos h19, if_pos h30]; done)
            | (rw [if_pos h19, if_neg h30, if_pos rfl]; done)
            | (rw [if_pos h19, if_neg h30, if_neg (by decide), if_pos rfl]; done)
            | (rw [if_pos h19, if_neg h30, if_neg (by decide), if_neg (by decide), if_pos rfl]; done)
            | (rw [if_pos h19, if_neg h30, if_neg (by decide), if_neg (by decide), if_neg (by decide), if_pos rfl]; done)
            | (rw [if_pos h19, if_neg h30, if_neg (by decide), if_neg (by decide), if_neg (by decide), if_neg (by decide), if_pos rfl]; done)
            | (rw [if_pos h19, if_neg h30, if_neg hs0, if_neg hs1, if_neg hs2, if_neg hs3, if_neg hs4]; done)
        by_cases hs3 : w = 3
        · subst hs3
          refine aw_tabIn 37 93 dX12_line_37 (by decide) (by decide) rfl (by decide) ?_
          refine aw_aload0 93 dX12_line_93 ?_
          refine rw_ga 94 19 dX12_line_94 ckF_RX12_46_12 (by decide) (by decide) hW ?_
          refine aw_iload1 97 dX12_line_97 ?_
          refine rw_ld 98 19 (p) dX12_line_98 hW rfl (show p < 12 by omega) ?_
          refine aw_iret 99 dX12_line_99 rfl (Nat.zero_le _) (Nat.zero_le _) ?_
          refine ⟨?_, hW⟩
          unfold sLn
          first
            | (rw [if_neg h19]; done)
            | (rw [if_pos h19, if_pos h30]; done)
            | (rw [if_pos h19, if_neg h30, if_pos rfl]; done)
            | (rw [if_pos h19, if_neg h30, if_neg (by decide), if_pos rfl]; done)
            | (rw [if_pos h19, if_neg h30, if_neg (by decide), if_neg (by decide), if_pos rfl]; done)
            | (rw [if_pos h19, if_neg h30, if_neg (by decide), if_neg (by decide), if_neg (by decide), if_pos rfl]; done)
            | (rw [if_pos h19, if_neg h30, if_neg (by decide), if_neg (by decide), if_neg (by decide), if_neg (by decide), if_pos rfl]; done)
            | (rw [if_pos h19, if_neg h30, if_neg hs0, if_neg hs1, if_neg hs2, if_neg hs3, if_neg hs4]; done)
        by_cases hs4 : w = 4
        · subst hs4
          refine aw_tabIn 37 100 dX12_line_37 (by decide) (by decide) rfl (by decide) ?_
          refine aw_aload0 100 dX12_line_100 ?_
          refine rw_ga 101 20 dX12_line_101 ckF_RX12_49_12 (by decide) (by decide) hW ?_
          refine aw_iload1 104 dX12_line_104 ?_
          refine rw_ld 105 20 (p) dX12_line_105 hW rfl (show p < 12 by omega) ?_
          refine aw_iret 106 dX12_line_106 rfl (Nat.zero_le _) (Nat.zero_le _) ?_
          refine ⟨?_, hW⟩
          unfold sLn
          first
            | (rw [if_neg h19]; done)
            | (rw [if_pos h19, if_pos h30]; done)
            | (rw [if_pos h19, if_neg h30, if_pos rfl]; done)
            | (rw [if_pos h19, if_neg h30, if_neg (by decide), if_pos rfl]; done)
            | (rw [if_pos h19, if_neg h30, if_neg (by decide), if_neg (by decide), if_pos rfl]; done)
            | (rw [if_pos h19, if_neg h30, if_neg (by decide), if_neg (by decide), if_neg (by decide), if_pos rfl]; done)
            | (rw [if_pos h19, if_neg h30, if_neg (by decide), if_neg (by decide), if_neg (by decide), if_neg (by decide), if_pos rfl]; done)
            | (rw [if_pos h19, if_neg h30, if_neg hs0, if_neg hs1, if_neg hs2, if_neg hs3, if_neg hs4]; done)
        have hso : w.toInt < 0 ∨ 4 < w.toInt := by
          have q0 := lv_neT (a := 0) hs0 (by decide)
          have q1 := lv_neT (a := 1) hs1 (by decide)
          have q2 := lv_neT (a := 2) hs2 (by decide)
          have q3 := lv_neT (a := 3) hs3 (by decide)
          have q4 := lv_neT (a := 4) hs4 (by decide)
          omega
        refine aw_tabOut 37 107 dX12_line_37 hso (by decide) ?_
        refine aw_aload0 107 dX12_line_107 ?_
        refine rw_ga 108 21 dX12_line_108 ckF_RX12_52_12 (by decide) (by decide) hW ?_
        refine aw_iload1 111 dX12_line_111 ?_
        refine rw_ld 112 21 (p) dX12_line_112 hW rfl (show p < 12 by omega) ?_
        refine aw_iret 113 dX12_line_113 rfl (Nat.zero_le _) (Nat.zero_le _) ?_
        refine ⟨?_, hW⟩
        unfold sLn
        first
          | (rw [if_neg h19]; done)
          | (rw [if_pos h19, if_pos h30]; done)
          | (rw [if_pos h19, if_neg h30, if_pos rfl]; done)
          | (rw [if_pos h19, if_neg h30, if_neg (by decide), if_pos rfl]; done)
          | (rw [if_pos h19, if_neg h30, if_neg (by decide), if_neg (by decide), if_pos rfl]; done)
          | (rw [if_pos h19, if_neg h30, if_neg (by decide), if_neg (by decide), if_neg (by decide), if_pos rfl]; done)
          | (rw [if_pos h19, if_neg h30, if_neg (by decide), if_neg (by decide), if_neg (by decide), if_neg (by decide), if_pos rfl]; done)
          | (rw [if_pos h19, if_neg h30, if_neg hs0, if_neg hs1, if_neg hs2, if_neg hs3, if_neg hs4]; done)
      · refine aw_bipush 33 (-3) dX12_line_33 (by decide) ?_
        refine aw_iret 35 dX12_line_35 rfl (Nat.zero_le _) (Nat.zero_le _) ?_
        refine ⟨?_, hW⟩
        unfold sLn
        first
          | (rw [if_neg h19]; done)
          | (rw [if_pos h19, if_pos h30]; done)
          | (rw [if_pos h19, if_neg h30, if_pos rfl]; done)
          | (rw [if_pos h19, if_neg h30, if_neg (by decide), if_pos rfl]; done)
          | (rw [if_pos h19, if_neg h30, if_neg (by decide), if_neg (by decide), if_pos rfl]; done)
          | (rw [if_pos h19, if_neg h30, if_neg (by decide), if_neg (by decide), if_neg (by decide), if_pos rfl]; done)
          | (rw [if_pos h19, if_neg h30, if_neg (by decide), if_neg (by decide), if_neg (by decide), if_neg (by decide), if_pos rfl]; done)
          | (rw [if_pos h19, if_neg h30, if_neg hs0, if_neg hs1, if_neg hs2, if_neg hs3, if_neg hs4]; done)
    · refine aw_bipush 22 (-2) dX12_line_22 (by decide) ?_
      refine aw_iret 24 dX12_line_24 rfl (Nat.zero_le _) (Nat.zero_le _) ?_
      refine ⟨?_, hW⟩
      unfold sLn
      first
        | (rw [if_neg h19]; done)
        | (rw [if_pos h19, if_pos h30]; done)
        | (rw [if_pos h19, if_neg h30, if_pos rfl]; done)
        | (rw [if_pos h19, if_neg h30, if_neg (by decide), if_pos rfl]; done)
        | (rw [if_pos h19, if_neg h30, if_neg (by decide), if_neg (by decide), if_pos rfl]; done)
        | (rw [if_pos h19, if_neg h30, if_neg (by decide), if_neg (by decide), if_neg (by decide), if_pos rfl]; done)
        | (rw [if_pos h19, if_neg h30, if_neg (by decide), if_neg (by decide), if_neg (by decide), if_neg (by decide), if_pos rfl]; done)
        | (rw [if_pos h19, if_neg h30, if_neg hs0, if_neg hs1, if_neg hs2, if_neg hs3, if_neg hs4]; done)
  · exact absurd hip h5

theorem irg_ne0 {v : Int32} {b : Int} (h : irg v 1 b) : ¬ v = 0 := fun q => by
  subst q
  have := h.1
  exact absurd this (by decide)

set_option maxHeartbeats 4000000 in
set_option maxRecDepth 100000 in
theorem c_X12_coarse {τ : TT} {p : Nat} {w : Int32} (hw : WP τ) (hp : p < nP τ) : RD mX12_coarse rmX12_coarse [.int (nI p), .int w] τ (some (.int (if irg w 1 24 then if τ 16 p < 0 then -3 else τ 18 p / w * w else -2))) (τ) := by
  intro M0 hW0
  refine am_of rfl rfl (ls := [some (.ref 25), some (.int (nI p)), some (.int w)]) rfl ?_
  suffices HH : ∀ M, RO τ M0 M → AW mX12_coarse rmX12_coarse (fun r' M' => r' = (some (.int (if irg w 1 24 then if τ 16 p < 0 then -3 else τ 18 p / w * w else -2))) ∧ RO (τ) M0 M') 0 [some (.ref 25), some (.int (nI p)), some (.int w)] [] M 0 0 from HH M0 ⟨hW0, Off.rf M0⟩
  intro M hW
  have hn12 := hw.1.1
  have hwd := (hw.2 p hp).1
  have hhg := (hw.2 p hp).2
  have hip := ir_nI (n := nP τ) (by omega) hp
  refine aw_aload0 0 dX12_coarse_0 ?_
  refine aw_iload1 1 dX12_coarse_1 ?_
  refine rw_call1 2 dX12_coarse_2 (c_X12_noPicture hw) ckV_RX12_146 cd_X12_noPicture rfl hW rfl (Nat.le_of_ble_eq_true rfl) ⟨⟨by decide, by decide⟩, by decide, by decide⟩ rfl (fun M hW => ?_)
  refine aw_ifeq_b 5 10 dX12_coarse_5 (by decide) (fun h5 => ?_) (fun h5 => ?_)
  · refine aw_iload2 10 dX12_coarse_10 ?_
    refine aw_i2l 11 dX12_coarse_11 ?_
    refine aw_lc1 12 dX12_coarse_12 ?_
    refine aw_ldc2 13 (24) dX12_coarse_13 ckL_RX12_289 ?_
    refine sd_call1 16 dX12_coarse_16 (c_in2 (1) (24) (by decide) (by decide)) ckS_RX12_99 cd_X12_in rfl (Nat.le_of_ble_eq_true rfl) ⟨⟨by decide, by decide⟩, by decide, by decide⟩ rfl ?_
    refine aw_ifne_b 19 25 dX12_coarse_19 (by decide) (fun h19 => ?_) (fun h19 => ?_)
    · refine aw_aload0 25 dX12_coarse_25 ?_
      refine aw_iload1 26 dX12_coarse_26 ?_
      refine rw_call1 27 dX12_coarse_27 (c_X12_noLine (by omega)) ckV_RX12_227 cd_X12_noLine rfl hW rfl (Nat.le_of_ble_eq_true rfl) ⟨⟨by decide, by decide⟩, by decide, by decide⟩ rfl (fun M hW => ?_)
      refine aw_ifeq_b 30 38 dX12_coarse_30 (by decide) (fun h30 => ?_) (fun h30 => ?_)
      · refine aw_aload0 38 dX12_coarse_38 ?_
        refine rw_ga 39 18 dX12_coarse_39 ckF_RX12_43_12 (by decide) (by decide) hW ?_
        refine aw_iload1 42 dX12_coarse_42 ?_
        refine rw_ld 43 18 (p) dX12_coarse_43 hW rfl (show p < 12 by omega) ?_
        refine aw_iload2 44 dX12_coarse_44 ?_
        refine aw_idiv 45 dX12_coarse_45 (irg_ne0 h19) ?_
        refine aw_iload2 46 dX12_coarse_46 ?_
        refine aw_imul 47 dX12_coarse_47 ?_
        refine aw_iret 48 dX12_coarse_48 rfl (Nat.zero_le _) (Nat.zero_le _) ?_
        refine ⟨?_, hW⟩
        first
          | (rw [if_neg h19]; done)
          | (rw [if_pos h19, if_pos h30]; done)
          | (rw [if_pos h19, if_neg h30]; done)
      · refine aw_bipush 33 (-3) dX12_coarse_33 (by decide) ?_
        refine aw_goto 35 48 dX12_coarse_35 (by decide) ?_
        refine aw_iret 48 dX12_coarse_48 rfl (Nat.zero_le _) (Nat.zero_le _) ?_
        refine ⟨?_, hW⟩
        first
          | (rw [if_neg h19]; done)
          | (rw [if_pos h19, if_pos h30]; done)
          | (rw [if_pos h19, if_neg h30]; done)
    · refine aw_bipush 22 (-2) dX12_coarse_22 (by decide) ?_
      refine aw_iret 24 dX12_coarse_24 rfl (Nat.zero_le _) (Nat.zero_le _) ?_
      refine ⟨?_, hW⟩
      first
        | (rw [if_neg h19]; done)
        | (rw [if_pos h19, if_pos h30]; done)
        | (rw [if_pos h19, if_neg h30]; done)
  · exact absurd hip h5

set_option maxHeartbeats 4000000 in
set_option maxRecDepth 100000 in
theorem c_X12_found {τ : TT} {p : Nat} {w : Int32} (hw : WP τ) (hp : p < nP τ) : RD mX12_found rmX12_found [.int (nI p), .int w] τ (some (.int (if irg w 0 255 then fnd τ p w (min 8 (wd τ p * hg τ p)) else -2))) (τ) := by
  intro M0 hW0
  refine am_of rfl rfl (ls := [some (.ref 25), some (.int (nI p)), some (.int w)]) rfl ?_
  suffices HH : ∀ M, RO τ M0 M → AW mX12_found rmX12_found (fun r' M' => r' = (some (.int (if irg w 0 255 then fnd τ p w (min 8 (wd τ p * hg τ p)) else -2))) ∧ RO (τ) M0 M') 0 [some (.ref 25), some (.int (nI p)), some (.int w)] [] M 0 0 from HH M0 ⟨hW0, Off.rf M0⟩
  intro M hW
  have hn12 := hw.1.1
  have hwd := (hw.2 p hp).1
  have hhg := (hw.2 p hp).2
  have hip := ir_nI (n := nP τ) (by omega) hp
  refine aw_aload0 0 dX12_found_0 ?_
  refine aw_iload1 1 dX12_found_1 ?_
  refine rw_call1 2 dX12_found_2 (c_X12_noPicture hw) ckV_RX12_146 cd_X12_noPicture rfl hW rfl (Nat.le_of_ble_eq_true rfl) ⟨⟨by decide, by decide⟩, by decide, by decide⟩ rfl (fun M hW => ?_)
  refine aw_ifeq_b 5 10 dX12_found_5 (by decide) (fun h5 => ?_) (fun h5 => ?_)
  · refine aw_iload2 10 dX12_found_10 ?_
    refine sd_call1 11 dX12_found_11 (c_X12_isMark) ckS_RX12_267 cd_X12_isMark rfl (Nat.le_of_ble_eq_true rfl) ⟨⟨by decide, by decide⟩, by decide, by decide⟩ rfl ?_
    refine aw_ifeq_b 14 26 dX12_found_14 (by decide) (fun h14 => ?_) (fun h14 => ?_)
    · refine aw_bipush 26 (-2) dX12_found_26 (by decide) ?_
      refine aw_iret 28 dX12_found_28 rfl (Nat.zero_le _) (Nat.zero_le _) ?_
      exact ⟨by first | (rw [if_pos h14]; done) | (rw [if_neg h14]; done), hW⟩
    · refine aw_aload0 17 dX12_found_17 ?_
      refine aw_iload1 18 dX12_found_18 ?_
      refine aw_iload2 19 dX12_found_19 ?_
      refine rw_call1 20 dX12_found_20 (c_X12_foundIn hw hp) ckV_RX12_276 cd_X12_foundIn rfl hW rfl (Nat.le_of_ble_eq_true rfl) ⟨⟨by decide, by decide⟩, by decide, by decide⟩ rfl (fun M hW => ?_)
      refine aw_goto 23 28 dX12_found_23 (by decide) ?_
      refine aw_iret 28 dX12_found_28 rfl (Nat.zero_le _) (Nat.zero_le _) ?_
      exact ⟨by first | (rw [if_pos h14]; done) | (rw [if_neg h14]; done), hW⟩
  · exact absurd hip h5

def rmX12_like : Room := { frames := 3, cells := 0, slots := 0, locals := 70 }
set_option maxHeartbeats 4000000 in
set_option maxRecDepth 100000 in
theorem n_X12_like {τ : TT} {v w : Int32} (hw : WP τ) (hno : ¬ ir v (nP τ) ∨ ¬ ir w (nP τ)) : RD mX12_like rmX12_like [.int v, .int w] τ (some (.int (-1))) (τ) := by
  intro M0 hW0
  refine am_of rfl rfl (ls := [some (.ref 25), some (.int v), some (.int w)]) rfl ?_
  suffices HH : ∀ M, RO τ M0 M → AW mX12_like rmX12_like (fun r' M' => r' = (some (.int (-1))) ∧ RO (τ) M0 M') 0 [some (.ref 25), some (.int v), some (.int w)] [] M 0 0 from HH M0 ⟨hW0, Off.rf M0⟩
  intro M hW
  refine aw_aload0 0 dX12_like_0 ?_
  refine aw_iload1 1 dX12_like_1 ?_
  refine rw_call1 2 dX12_like_2 (c_X12_noPicture hw) ckV_RX12_146 cd_X12_noPicture rfl hW rfl (Nat.le_of_ble_eq_true rfl) ⟨⟨by decide, by decide⟩, by decide, by decide⟩ rfl (fun M hW => ?_)
  refine aw_ifne_b 5 16 dX12_like_5 (by decide) (fun h5 => ?_) (fun h5 => ?_)
  · refine aw_icm1 16 dX12_like_16 ?_
    refine aw_goto 17 26 dX12_like_17 (by decide) ?_
    refine aw_iret 26 dX12_like_26 rfl (Nat.zero_le _) (Nat.zero_le _) ?_
    exact ⟨rfl, hW⟩
  · refine aw_aload0 8 dX12_like_8 ?_
    refine aw_iload2 9 dX12_like_9 ?_
    refine rw_call1 10 dX12_like_10 (c_X12_noPicture hw) ckV_RX12_146 cd_X12_noPicture rfl hW rfl (Nat.le_of_ble_eq_true rfl) ⟨⟨by decide, by decide⟩, by decide, by decide⟩ rfl (fun M hW => ?_)
    refine aw_ifeq_b 13 20 dX12_like_13 (by decide) (fun h13 => ?_) (fun h13 => ?_)
    · exact absurd hno (fun q => q.elim h5 h13)
    · refine aw_icm1 16 dX12_like_16 ?_
      refine aw_goto 17 26 dX12_like_17 (by decide) ?_
      refine aw_iret 26 dX12_like_26 rfl (Nat.zero_le _) (Nat.zero_le _) ?_
      exact ⟨rfl, hW⟩

set_option maxHeartbeats 4000000 in
set_option maxRecDepth 100000 in
theorem c_X12_like {τ : TT} {p q : Nat} (hw : WP τ) (hp : p < nP τ) (hq : q < nP τ) : RD mX12_like rmX12_like [.int (nI p), .int (nI q)] τ (some (.int (lkn τ p q))) (τ) := by
  intro M0 hW0
  refine am_of rfl rfl (ls := [some (.ref 25), some (.int (nI p)), some (.int (nI q))]) rfl ?_
  suffices HH : ∀ M, RO τ M0 M → AW mX12_like rmX12_like (fun r' M' => r' = (some (.int (lkn τ p q))) ∧ RO (τ) M0 M') 0 [some (.ref 25), some (.int (nI p)), some (.int (nI q))] [] M 0 0 from HH M0 ⟨hW0, Off.rf M0⟩
  intro M hW
  have hn12 := hw.1.1
  have hwd := (hw.2 p hp).1
  have hhg := (hw.2 p hp).2
  have hip := ir_nI (n := nP τ) (by omega) hp
  have hiq := ir_nI (n := nP τ) (by omega) hq
  refine aw_aload0 0 dX12_like_0 ?_
  refine aw_iload1 1 dX12_like_1 ?_
  refine rw_call1 2 dX12_like_2 (c_X12_noPicture hw) ckV_RX12_146 cd_X12_noPicture rfl hW rfl (Nat.le_of_ble_eq_true rfl) ⟨⟨by decide, by decide⟩, by decide, by decide⟩ rfl (fun M hW => ?_)
  refine aw_ifne_b 5 16 dX12_like_5 (by decide) (fun h5 => ?_) (fun h5 => ?_)
  · first | exact absurd hip h5 | exact absurd hiq h13
  · refine aw_aload0 8 dX12_like_8 ?_
    refine aw_iload2 9 dX12_like_9 ?_
    refine rw_call1 10 dX12_like_10 (c_X12_noPicture hw) ckV_RX12_146 cd_X12_noPicture rfl hW rfl (Nat.le_of_ble_eq_true rfl) ⟨⟨by decide, by decide⟩, by decide, by decide⟩ rfl (fun M hW => ?_)
    refine aw_ifeq_b 13 20 dX12_like_13 (by decide) (fun h13 => ?_) (fun h13 => ?_)
    · refine aw_aload0 20 dX12_like_20 ?_
      refine aw_iload1 21 dX12_like_21 ?_
      refine aw_iload2 22 dX12_like_22 ?_
      refine rw_call1 23 dX12_like_23 (c_X12_likeness hw hp hq) ckV_RX12_286 cd_X12_likeness rfl hW rfl (Nat.le_of_ble_eq_true rfl) ⟨⟨by decide, by decide⟩, by decide, by decide⟩ rfl (fun M hW => ?_)
      refine aw_iret 26 dX12_like_26 rfl (Nat.zero_le _) (Nat.zero_le _) ?_
      exact ⟨rfl, hW⟩
    · first | exact absurd hip h5 | exact absurd hiq h13

theorem prf_ix : ∀ j, j < 16 → ∀ k, k < 4 → (nI (16 + j) >>> (nI k &&& 31)) ^^^ 1 = nI (((16 + j) / 2 ^ k) ^^^ 1) ∧ 1 ≤ ((16 + j) / 2 ^ k) ^^^ 1 ∧ ((16 + j) / 2 ^ k) ^^^ 1 < 32 := by decide +kernel
theorem irg_of {v : Int32} {b : Nat} (hb : b < 2 ^ 30) (h : irg v 0 b) : ∃ k : Nat, k < b + 1 ∧ v = nI k := ir_of ⟨h.1, by have := h.2; omega⟩ (by omega)
theorem irg_nI {k b : Nat} (hb : b < 2 ^ 30) (h : k ≤ b) : irg (nI k) 0 b := by
  unfold irg
  rw [nI_toInt (by omega)]
  omega

def rmX12_proof : Room := { frames := 3, cells := 0, slots := 0, locals := 69 }
set_option maxHeartbeats 4000000 in
set_option maxRecDepth 100000 in
theorem n_X12_proof {τ : TT} {v w u : Int32} (hw : WP τ) (hno : ¬ ir v (nP τ) ∨ ¬ irg w 0 15 ∨ ¬ irg u 0 3) : RD mX12_proof rmX12_proof [.int v, .int w, .int u] τ (some (.int (-1))) (τ) := by
  intro M0 hW0
  refine am_of rfl rfl (ls := [some (.ref 25), some (.int v), some (.int w), some (.int u)]) rfl ?_
  suffices HH : ∀ M, RO τ M0 M → AW mX12_proof rmX12_proof (fun r' M' => r' = (some (.int (-1))) ∧ RO (τ) M0 M') 0 [some (.ref 25), some (.int v), some (.int w), some (.int u)] [] M 0 0 from HH M0 ⟨hW0, Off.rf M0⟩
  intro M hW
  refine aw_aload0 0 dX12_proof_0 ?_
  refine aw_iload1 1 dX12_proof_1 ?_
  refine rw_call1 2 dX12_proof_2 (c_X12_noPicture hw) ckV_RX12_146 cd_X12_noPicture rfl hW rfl (Nat.le_of_ble_eq_true rfl) ⟨⟨by decide, by decide⟩, by decide, by decide⟩ rfl (fun M hW => ?_)
  refine aw_ifne_b 5 32 dX12_proof_5 (by decide) (fun h5 => ?_) (fun h5 => ?_)
  · refine aw_icm1 32 dX12_proof_32 ?_
    refine aw_iret 33 dX12_proof_33 rfl (Nat.zero_le _) (Nat.zero_le _) ?_
    exact ⟨rfl, hW⟩
  · refine aw_iload2 8 dX12_proof_8 ?_
    refine aw_i2l 9 dX12_proof_9 ?_
    refine aw_lc0 10 dX12_proof_10 ?_
    refine aw_ldc2 11 (15) dX12_proof_11 ckL_RX12_108 ?_
    refine sd_call1 14 dX12_proof_14 (c_in2 (0) (15) (by decide) (by decide)) ckS_RX12_99 cd_X12_in rfl (Nat.le_of_ble_eq_true rfl) ⟨⟨by decide, by decide⟩, by decide, by decide⟩ rfl ?_
    refine aw_ifeq_b 17 32 dX12_proof_17 (by decide) (fun h17 => ?_) (fun h17 => ?_)
    · refine aw_icm1 32 dX12_proof_32 ?_
      refine aw_iret 33 dX12_proof_33 rfl (Nat.zero_le _) (Nat.zero_le _) ?_
      exact ⟨rfl, hW⟩
    · refine aw_iload3 20 dX12_proof_20 ?_
      refine aw_i2l 21 dX12_proof_21 ?_
      refine aw_lc0 22 dX12_proof_22 ?_
      refine aw_ldc2 23 (3) dX12_proof_23 ckL_RX12_260 ?_
      refine sd_call1 26 dX12_proof_26 (c_in2 (0) (3) (by decide) (by decide)) ckS_RX12_99 cd_X12_in rfl (Nat.le_of_ble_eq_true rfl) ⟨⟨by decide, by decide⟩, by decide, by decide⟩ rfl ?_
      refine aw_ifne_b 29 34 dX12_proof_29 (by decide) (fun h29 => ?_) (fun h29 => ?_)
      · exact absurd hno (fun q => q.elim h5 (fun q => q.elim (fun z => z h17) (fun z => z h29)))
      · refine aw_icm1 32 dX12_proof_32 ?_
        refine aw_iret 33 dX12_proof_33 rfl (Nat.zero_le _) (Nat.zero_le _) ?_
        exact ⟨rfl, hW⟩

set_option maxHeartbeats 4000000 in
set_option maxRecDepth 100000 in
theorem c_X12_proof {τ : TT} {p j k : Nat} (hw : WP τ) (hp : p < nP τ) (hj : j < 16) (hk : k < 4) : RD mX12_proof rmX12_proof [.int (nI p), .int (nI j), .int (nI k)] τ (some (.int (TN (leaf τ p) (((16 + j) / 2 ^ k) ^^^ 1)))) (lay τ p) := by
  intro M0 hW0
  refine am_of rfl rfl (ls := [some (.ref 25), some (.int (nI p)), some (.int (nI j)), some (.int (nI k))]) rfl ?_
  suffices HH : ∀ M, RO τ M0 M → AW mX12_proof rmX12_proof (fun r' M' => r' = (some (.int (TN (leaf τ p) (((16 + j) / 2 ^ k) ^^^ 1)))) ∧ RO (lay τ p) M0 M') 0 [some (.ref 25), some (.int (nI p)), some (.int (nI j)), some (.int (nI k))] [] M 0 0 from HH M0 ⟨hW0, Off.rf M0⟩
  intro M hW
  have hn12 := hw.1.1
  have hwd := (hw.2 p hp).1
  have hhg := (hw.2 p hp).2
  have hip := ir_nI (n := nP τ) (by omega) hp
  have hij : irg (nI j) 0 15 := irg_nI (b := 15) (by decide) (by omega)
  have hik : irg (nI k) 0 3 := irg_nI (b := 3) (by decide) (by omega)
  have hpx := prf_ix j hj k hk
  refine aw_aload0 0 dX12_proof_0 ?_
  refine aw_iload1 1 dX12_proof_1 ?_
  refine rw_call1 2 dX12_proof_2 (c_X12_noPicture hw) ckV_RX12_146 cd_X12_noPicture rfl hW rfl (Nat.le_of_ble_eq_true rfl) ⟨⟨by decide, by decide⟩, by decide, by decide⟩ rfl (fun M hW => ?_)
  refine aw_ifne_b 5 32 dX12_proof_5 (by decide) (fun h5 => ?_) (fun h5 => ?_)
  · first | exact absurd hip h5 | exact absurd hij h17 | exact absurd hik h29
  · refine aw_iload2 8 dX12_proof_8 ?_
    refine aw_i2l 9 dX12_proof_9 ?_
    refine aw_lc0 10 dX12_proof_10 ?_
    refine aw_ldc2 11 (15) dX12_proof_11 ckL_RX12_108 ?_
    refine sd_call1 14 dX12_proof_14 (c_in2 (0) (15) (by decide) (by decide)) ckS_RX12_99 cd_X12_in rfl (Nat.le_of_ble_eq_true rfl) ⟨⟨by decide, by decide⟩, by decide, by decide⟩ rfl ?_
    refine aw_ifeq_b 17 32 dX12_proof_17 (by decide) (fun h17 => ?_) (fun h17 => ?_)
    · first | exact absurd hip h5 | exact absurd hij h17 | exact absurd hik h29
    · refine aw_iload3 20 dX12_proof_20 ?_
      refine aw_i2l 21 dX12_proof_21 ?_
      refine aw_lc0 22 dX12_proof_22 ?_
      refine aw_ldc2 23 (3) dX12_proof_23 ckL_RX12_260 ?_
      refine sd_call1 26 dX12_proof_26 (c_in2 (0) (3) (by decide) (by decide)) ckS_RX12_99 cd_X12_in rfl (Nat.le_of_ble_eq_true rfl) ⟨⟨by decide, by decide⟩, by decide, by decide⟩ rfl ?_
      refine aw_ifne_b 29 34 dX12_proof_29 (by decide) (fun h29 => ?_) (fun h29 => ?_)
      · refine aw_aload0 34 dX12_proof_34 ?_
        refine aw_iload1 35 dX12_proof_35 ?_
        refine rw_call0 36 dX12_proof_36 (c_X12_layTree hw hp) ckV_RX12_142 cd_X12_layTree rfl hW rfl (Nat.le_of_ble_eq_true rfl) ⟨⟨by decide, by decide⟩, by decide, by decide⟩ rfl (fun M hW => ?_)
        refine aw_aload0 39 dX12_proof_39 ?_
        refine rw_ga 40 5 dX12_proof_40 ckF_RX12_19_12 (by decide) (by decide) hW ?_
        refine aw_bipush 43 16 dX12_proof_43 (by decide) ?_
        refine aw_iload2 45 dX12_proof_45 ?_
        refine aw_iaddN 46 (16) (j) dX12_proof_46 rfl rfl ?_
        refine aw_iload3 47 dX12_proof_47 ?_
        refine aw_ishr 48 dX12_proof_48 ?_
        refine aw_ic1 49 dX12_proof_49 ?_
        refine aw_ixor 50 dX12_proof_50 ?_
        refine aw_topi hpx.1 ?_
        refine rw_ld 51 5 (((16 + j) / 2 ^ k) ^^^ 1) dX12_proof_51 hW rfl (show ((16 + j) / 2 ^ k) ^^^ 1 < 32 by omega) ?_
        refine aw_topi (show lay τ p 5 (((16 + j) / 2 ^ k) ^^^ 1) = _ from ov_in hpx.2) ?_
        refine aw_iret 52 dX12_proof_52 rfl (Nat.zero_le _) (Nat.zero_le _) ?_
        exact ⟨rfl, hW⟩
      · first | exact absurd hip h5 | exact absurd hij h17 | exact absurd hik h29

def tLk (τ : TT) (p : Nat) (h w : Int32) : TT := tu (tu (tu (tu τ 25 (nK τ) (nI p)) 26 (nK τ) h) 27 (nK τ) w) 24 0 (nI (nK τ + 1))

set_option maxHeartbeats 4000000 in
set_option maxRecDepth 100000 in
theorem c_X12_look {τ : TT} {p : Nat} {h w : Int32} (hw : WP τ) (hp : p < nP τ) (hk : nK τ ≤ 9 ∧ τ 24 0 = nI (nK τ)) : RD mX12_look rmX12_look [.int (nI p), .int h, .int w] τ (some (.int (if irg h 1 9 ∧ irg w 0 99 then if nK τ = 9 then -4 else nI (nK τ) else -2))) (if irg h 1 9 ∧ irg w 0 99 ∧ ¬ nK τ = 9 then tLk τ p h w else τ) := by
  intro M0 hW0
  refine am_of rfl rfl (ls := [some (.ref 25), some (.int (nI p)), some (.int h), some (.int w)]) rfl ?_
  suffices HH : ∀ M, RO τ M0 M → AW mX12_look rmX12_look (fun r' M' => r' = (some (.int (if irg h 1 9 ∧ irg w 0 99 then if nK τ = 9 then -4 else nI (nK τ) else -2))) ∧ RO (if irg h 1 9 ∧ irg w 0 99 ∧ ¬ nK τ = 9 then tLk τ p h w else τ) M0 M') 0 [some (.ref 25), some (.int (nI p)), some (.int h), some (.int w)] [] M 0 0 from HH M0 ⟨hW0, Off.rf M0⟩
  intro M hW
  have hn12 := hw.1.1
  have hwd := (hw.2 p hp).1
  have hhg := (hw.2 p hp).2
  have hip := ir_nI (n := nP τ) (by omega) hp
  refine aw_aload0 0 dX12_look_0 ?_
  refine aw_iload1 1 dX12_look_1 ?_
  refine rw_call1 2 dX12_look_2 (c_X12_noPicture hw) ckV_RX12_146 cd_X12_noPicture rfl hW rfl (Nat.le_of_ble_eq_true rfl) ⟨⟨by decide, by decide⟩, by decide, by decide⟩ rfl (fun M hW => ?_)
  refine aw_ifeq_b 5 10 dX12_look_5 (by decide) (fun h5 => ?_) (fun h5 => ?_)
  · refine aw_iload2 10 dX12_look_10 ?_
    refine aw_i2l 11 dX12_look_11 ?_
    refine aw_lc1 12 dX12_look_12 ?_
    refine aw_ldc2 13 (9) dX12_look_13 ckL_RX12_172 ?_
    refine sd_call1 16 dX12_look_16 (c_in2 (1) (9) (by decide) (by decide)) ckS_RX12_99 cd_X12_in rfl (Nat.le_of_ble_eq_true rfl) ⟨⟨by decide, by decide⟩, by decide, by decide⟩ rfl ?_
    refine aw_ifeq_b 19 34 dX12_look_19 (by decide) (fun h19 => ?_) (fun h19 => ?_)
    · refine aw_bipush 34 (-2) dX12_look_34 (by decide) ?_
      refine aw_iret 36 dX12_look_36 rfl (Nat.zero_le _) (Nat.zero_le _) ?_
      refine ⟨?_, ?_⟩
      · first
          | (rw [if_neg (fun q => h19 q.1)]; done)
          | (rw [if_neg (fun q => h31 q.2)]; done)
          | (rw [if_pos ⟨h19, h31⟩, if_pos h43]; done)
          | (rw [if_pos ⟨h19, h31⟩, if_neg h43, show nK τ + 1 - 1 = nK τ by omega]; done)
      · first
          | (rw [if_neg (fun q => h19 q.1)]; exact hW)
          | (rw [if_neg (fun q => h31 q.2.1)]; exact hW)
          | (rw [if_neg (fun q => q.2.2 h43)]; exact hW)
          | (rw [if_pos ⟨h19, h31, h43⟩]; exact hW)
    · refine aw_iload3 22 dX12_look_22 ?_
      refine aw_i2l 23 dX12_look_23 ?_
      refine aw_lc0 24 dX12_look_24 ?_
      refine aw_ldc2 25 (99) dX12_look_25 ckL_RX12_126 ?_
      refine sd_call1 28 dX12_look_28 (c_in2 (0) (99) (by decide) (by decide)) ckS_RX12_99 cd_X12_in rfl (Nat.le_of_ble_eq_true rfl) ⟨⟨by decide, by decide⟩, by decide, by decide⟩ rfl ?_
      refine aw_ifne_b 31 37 dX12_look_31 (by decide) (fun h31 => ?_) (fun h31 => ?_)
      · refine aw_aload0 37 dX12_look_37 ?_
        refine rw_gi 38 24 dX12_look_38 ckF_RX12_291_12 (by decide) rfl hW ?_
        refine aw_topi (w := nI (nK τ)) (hk.2) ?_
        refine aw_bipush 41 9 dX12_look_41 (by decide) ?_
        refine aw_icmp_neN 43 49 (nK τ) (9) dX12_look_43 (by decide) rfl rfl (by omega) (by omega) (fun h43 => ?_) (fun h43 => ?_)
        · refine aw_aload0 49 dX12_look_49 ?_
          refine rw_ga 50 25 dX12_look_50 ckF_RX12_58_12 (by decide) (by decide) hW ?_
          refine aw_aload0 53 dX12_look_53 ?_
          refine rw_gi 54 24 dX12_look_54 ckF_RX12_291_12 (by decide) rfl hW ?_
          refine aw_topi (w := nI (nK τ)) (hk.2) ?_
          refine aw_iload1 57 dX12_look_57 ?_
          refine rw_st 58 25 (nK τ) dX12_look_58 hW rfl (show nK τ < 9 by omega) (fun M hW => ?_)
          refine aw_aload0 59 dX12_look_59 ?_
          refine rw_ga 60 26 dX12_look_60 ckF_RX12_61_12 (by decide) (by decide) hW ?_
          refine aw_aload0 63 dX12_look_63 ?_
          refine rw_gi 64 24 dX12_look_64 ckF_RX12_291_12 (by decide) rfl hW ?_
          refine aw_topi (w := nI (nK τ)) (hk.2) ?_
          refine aw_iload2 67 dX12_look_67 ?_
          refine rw_st 68 26 (nK τ) dX12_look_68 hW rfl (show nK τ < 9 by omega) (fun M hW => ?_)
          refine aw_aload0 69 dX12_look_69 ?_
          refine rw_ga 70 27 dX12_look_70 ckF_RX12_64_12 (by decide) (by decide) hW ?_
          refine aw_aload0 73 dX12_look_73 ?_
          refine rw_gi 74 24 dX12_look_74 ckF_RX12_291_12 (by decide) rfl hW ?_
          refine aw_topi (w := nI (nK τ)) (hk.2) ?_
          refine aw_iload3 77 dX12_look_77 ?_
          refine rw_st 78 27 (nK τ) dX12_look_78 hW rfl (show nK τ < 9 by omega) (fun M hW => ?_)
          refine aw_aload0 79 dX12_look_79 ?_
          refine aw_dup 80 dX12_look_80 rfl ?_
          refine rw_gi 81 24 dX12_look_81 ckF_RX12_291_12 (by decide) rfl hW ?_
          refine aw_topi (w := nI (nK τ)) (hk.2) ?_
          refine aw_ic1 84 dX12_look_84 ?_
          refine aw_iaddN 85 (nK τ) (1) dX12_look_85 rfl rfl ?_
          refine rw_pi 86 24 dX12_look_86 ckF_RX12_291_12 ckP12_24 rfl (by decide) rfl hW (fun M hW => ?_)
          refine aw_aload0 89 dX12_look_89 ?_
          refine rw_gi 90 24 dX12_look_90 ckF_RX12_291_12 (by decide) rfl hW ?_
          refine aw_topi (w := nI (nK τ + 1)) (tu_at) ?_
          refine aw_ic1 93 dX12_look_93 ?_
          refine aw_isubN 94 (nK τ + 1) (1) dX12_look_94 rfl rfl (by omega) ?_
          refine aw_iret 95 dX12_look_95 rfl (Nat.zero_le _) (Nat.zero_le _) ?_
          refine ⟨?_, ?_⟩
          · first
              | (rw [if_neg (fun q => h19 q.1)]; done)
              | (rw [if_neg (fun q => h31 q.2)]; done)
              | (rw [if_pos ⟨h19, h31⟩, if_pos h43]; done)
              | (rw [if_pos ⟨h19, h31⟩, if_neg h43, show nK τ + 1 - 1 = nK τ by omega]; done)
          · first
              | (rw [if_neg (fun q => h19 q.1)]; exact hW)
              | (rw [if_neg (fun q => h31 q.2.1)]; exact hW)
              | (rw [if_neg (fun q => q.2.2 h43)]; exact hW)
              | (rw [if_pos ⟨h19, h31, h43⟩]; exact hW)
        · refine aw_bipush 46 (-4) dX12_look_46 (by decide) ?_
          refine aw_iret 48 dX12_look_48 rfl (Nat.zero_le _) (Nat.zero_le _) ?_
          refine ⟨?_, ?_⟩
          · first
              | (rw [if_neg (fun q => h19 q.1)]; done)
              | (rw [if_neg (fun q => h31 q.2)]; done)
              | (rw [if_pos ⟨h19, h31⟩, if_pos h43]; done)
              | (rw [if_pos ⟨h19, h31⟩, if_neg h43, show nK τ + 1 - 1 = nK τ by omega]; done)
          · first
              | (rw [if_neg (fun q => h19 q.1)]; exact hW)
              | (rw [if_neg (fun q => h31 q.2.1)]; exact hW)
              | (rw [if_neg (fun q => q.2.2 h43)]; exact hW)
              | (rw [if_pos ⟨h19, h31, h43⟩]; exact hW)
      · refine aw_bipush 34 (-2) dX12_look_34 (by decide) ?_
        refine aw_iret 36 dX12_look_36 rfl (Nat.zero_le _) (Nat.zero_le _) ?_
        refine ⟨?_, ?_⟩
        · first
            | (rw [if_neg (fun q => h19 q.1)]; done)
            | (rw [if_neg (fun q => h31 q.2)]; done)
            | (rw [if_pos ⟨h19, h31⟩, if_pos h43]; done)
            | (rw [if_pos ⟨h19, h31⟩, if_neg h43, show nK τ + 1 - 1 = nK τ by omega]; done)
        · first
            | (rw [if_neg (fun q => h19 q.1)]; exact hW)
            | (rw [if_neg (fun q => h31 q.2.1)]; exact hW)
            | (rw [if_neg (fun q => q.2.2 h43)]; exact hW)
            | (rw [if_pos ⟨h19, h31, h43⟩]; exact hW)
  · exact absurd hip h5

