/-! the reference: its plain calls (rows laid by gen/ref4.py) -/

def rmX12_trace : Room := { frames := 0, cells := 0, slots := 0, locals := 0 }
set_option maxHeartbeats 4000000 in
set_option maxRecDepth 100000 in
theorem c_X12_trace {τ : TT}  : RD mX12_trace rmX12_trace [] τ (some (.int (τ 32 0))) (τ) := by
  intro M0 hW0
  have hW : RO τ M0 M0 := ⟨hW0, Off.rf M0⟩
  refine am_of rfl rfl (ls := [some (.ref 25)]) rfl ?_
  refine aw_aload0 0 dX12_trace_0 ?_
  refine rw_gi 1 32 dX12_trace_1 ckF_RX12_304_12 (by decide) rfl hW ?_
  refine aw_iret 4 dX12_trace_4 rfl (Nat.zero_le _) (Nat.zero_le _) ?_
  exact ⟨rfl, hW⟩

def rmX12_fault : Room := { frames := 0, cells := 0, slots := 0, locals := 0 }
set_option maxHeartbeats 4000000 in
set_option maxRecDepth 100000 in
theorem c_X12_fault {τ : TT}  : RD mX12_fault rmX12_fault [] τ (some (.int (τ 0 0))) (τ) := by
  intro M0 hW0
  have hW : RO τ M0 M0 := ⟨hW0, Off.rf M0⟩
  refine am_of rfl rfl (ls := [some (.ref 25)]) rfl ?_
  refine aw_aload0 0 dX12_fault_0 ?_
  refine rw_gi 1 0 dX12_fault_1 ckF_RX12_81_12 (by decide) rfl hW ?_
  refine aw_iret 4 dX12_fault_4 rfl (Nat.zero_le _) (Nat.zero_le _) ?_
  exact ⟨rfl, hW⟩

abbrev irg (v : Int32) (a b : Int) : Prop := a ≤ v.toInt ∧ v.toInt ≤ b
def rmX12_within : Room := { frames := 1, cells := 0, slots := 0, locals := 25 }
set_option maxHeartbeats 4000000 in
set_option maxRecDepth 100000 in
theorem c_X12_within {τ : TT} {v : Int32} : RD mX12_within rmX12_within [.int v] τ (some (.int (if irg v 0 20 then τ 23 0 else -2))) (if irg v 0 20 then tu τ 23 0 v else τ) := by
  intro M0 hW0
  have hW : RO τ M0 M0 := ⟨hW0, Off.rf M0⟩
  refine am_of rfl rfl (ls := [some (.ref 25), some (.int v), none]) rfl ?_
  refine aw_iload1 0 dX12_within_0 ?_
  refine aw_i2l 1 dX12_within_1 ?_
  refine aw_lc0 2 dX12_within_2 ?_
  refine aw_ldc2 3 (20) dX12_within_3 ckL_RX12_236 ?_
  refine sd_call1 6 dX12_within_6 (c_in2 (0) (20) (by decide) (by decide)) ckS_RX12_99 cd_X12_in rfl (Nat.le_of_ble_eq_true rfl) ⟨⟨by decide, by decide⟩, by decide, by decide⟩ rfl ?_
  refine aw_ifne_b 9 15 dX12_within_9 (by decide) (fun h9 => ?_) (fun h9 => ?_)
  · refine aw_aload0 15 dX12_within_15 ?_
    refine rw_gi 16 23 dX12_within_16 ckF_RX12_238_12 (by decide) rfl hW ?_
    refine aw_istore2 19 dX12_within_19 rfl ?_
    refine aw_aload0 20 dX12_within_20 ?_
    refine aw_iload1 21 dX12_within_21 ?_
    refine rw_pi 22 23 dX12_within_22 ckF_RX12_238_12 ckP12_23 rfl (by decide) rfl hW (fun M hW => ?_)
    refine aw_iload2 25 dX12_within_25 ?_
    refine aw_iret 26 dX12_within_26 rfl (Nat.zero_le _) (Nat.zero_le _) ?_
    refine ⟨?_, ?_⟩
    · first
        | (rw [if_pos h9]; done)
        | (rw [if_neg h9]; done)
    · first
        | (rw [if_pos h9]; exact hW)
        | (rw [if_neg h9]; exact hW)
  · refine aw_bipush 12 (-2) dX12_within_12 (by decide) ?_
    refine aw_iret 14 dX12_within_14 rfl (Nat.zero_le _) (Nat.zero_le _) ?_
    refine ⟨?_, ?_⟩
    · first
        | (rw [if_pos h9]; done)
        | (rw [if_neg h9]; done)
    · first
        | (rw [if_pos h9]; exact hW)
        | (rw [if_neg h9]; exact hW)

def rmX12_ofPicture : Room := { frames := 4, cells := 0, slots := 0, locals := 90 }
set_option maxHeartbeats 4000000 in
set_option maxRecDepth 100000 in
theorem n_X12_ofPicture {τ : TT} {v w : Int32} (hw : WP τ) (hno : ¬ ir v (nP τ)) : RD mX12_ofPicture rmX12_ofPicture [.int v, .int w] τ (some (.int (-1))) (τ) := by
  intro M0 hW0
  have hW : RO τ M0 M0 := ⟨hW0, Off.rf M0⟩
  refine am_of rfl rfl (ls := [some (.ref 25), some (.int v), some (.int w)]) rfl ?_
  refine aw_aload0 0 dX12_ofPicture_0 ?_
  refine aw_iload1 1 dX12_ofPicture_1 ?_
  refine rw_call1 2 dX12_ofPicture_2 (c_X12_noPicture hw) ckV_RX12_146 cd_X12_noPicture rfl hW rfl (Nat.le_of_ble_eq_true rfl) ⟨⟨by decide, by decide⟩, by decide, by decide⟩ rfl (fun M hW => ?_)
  refine aw_ifeq_b 5 10 dX12_ofPicture_5 (by decide) (fun h5 => ?_) (fun h5 => ?_)
  · exact absurd hno h5
  · refine aw_icm1 8 dX12_ofPicture_8 ?_
    refine aw_iret 9 dX12_ofPicture_9 rfl (Nat.zero_le _) (Nat.zero_le _) ?_
    exact ⟨rfl, hW⟩

def sOf (τ : TT) (p : Nat) (w : Int32) : Int32 := if w = 0 then τ 2 p else if w = 1 then τ 3 p else if w = 2 then rsum τ p (mny τ p) else if w = 3 then TN (leaf τ p) 1 else if irg w 10 25 ∧ thr τ p (w.toNatClampNeg - 10) then τ 4 (16 * p + (w.toNatClampNeg - 10)) else -2
def tOf (τ : TT) (p : Nat) (w : Int32) : TT := if w = 3 then lay τ p else τ

set_option maxHeartbeats 4000000 in
set_option maxRecDepth 100000 in
theorem c_X12_ofPicture {τ : TT} {p : Nat} {w : Int32} (hw : WP τ) (hp : p < nP τ) : RD mX12_ofPicture rmX12_ofPicture [.int (nI p), .int w] τ (some (.int (sOf τ p w))) (tOf τ p w) := by
  intro M0 hW0
  have hW : RO τ M0 M0 := ⟨hW0, Off.rf M0⟩
  refine am_of rfl rfl (ls := [some (.ref 25), some (.int (nI p)), some (.int w)]) rfl ?_
  have hn12 := hw.1.1
  have hwd := (hw.2 p hp).1
  have hhg := (hw.2 p hp).2
  have hip := ir_nI (n := nP τ) (by omega) hp
  refine aw_aload0 0 dX12_ofPicture_0 ?_
  refine aw_iload1 1 dX12_ofPicture_1 ?_
  refine rw_call1 2 dX12_ofPicture_2 (c_X12_noPicture hw) ckV_RX12_146 cd_X12_noPicture rfl hW rfl (Nat.le_of_ble_eq_true rfl) ⟨⟨by decide, by decide⟩, by decide, by decide⟩ rfl (fun M hW => ?_)
  refine aw_ifeq_b 5 10 dX12_ofPicture_5 (by decide) (fun h5 => ?_) (fun h5 => ?_)
  · refine aw_iload2 10 dX12_ofPicture_10 ?_
    by_cases hs0 : w = 0
    · subst hs0
      refine aw_tabIn 11 40 dX12_ofPicture_11 (by decide) (by decide) rfl (by decide) ?_
      refine aw_aload0 40 dX12_ofPicture_40 ?_
      refine rw_ga 41 2 dX12_ofPicture_41 ckF_RX12_7_12 (by decide) (by decide) hW ?_
      refine aw_iload1 44 dX12_ofPicture_44 ?_
      refine rw_ld 45 2 (p) dX12_ofPicture_45 hW rfl (show p < 12 by omega) ?_
      refine aw_iret 46 dX12_ofPicture_46 rfl (Nat.zero_le _) (Nat.zero_le _) ?_
      refine ⟨?_, ?_⟩
      · unfold sOf
        first
          | (rw [if_pos rfl]; done)
          | (rw [if_neg (by decide), if_pos rfl]; done)
          | (rw [if_neg (by decide), if_neg (by decide), if_pos rfl]; rfl)
          | (rw [if_neg (by decide), if_neg (by decide), if_neg (by decide), if_pos rfl]; done)
          | (rw [if_neg hs0, if_neg hs1, if_neg hs2, if_neg hs3, if_neg (fun q => h77 q.1)]; done)
          | (rw [if_neg hs0, if_neg hs1, if_neg hs2, if_neg hs3, hcl, show 10 + k - 10 = k by omega, if_neg (fun q => h89 q.2)]; done)
          | (rw [if_neg hs0, if_neg hs1, if_neg hs2, if_neg hs3, hcl, show 10 + k - 10 = k by omega, if_pos ⟨h77, h89⟩]; done)
      · unfold tOf
        first
          | (rw [if_pos rfl]; exact hW)
          | (rw [if_neg (by first | decide | assumption)]; exact hW)
    by_cases hs1 : w = 1
    · subst hs1
      refine aw_tabIn 11 47 dX12_ofPicture_11 (by decide) (by decide) rfl (by decide) ?_
      refine aw_aload0 47 dX12_ofPicture_47 ?_
      refine rw_ga 48 3 dX12_ofPicture_48 ckF_RX12_13_12 (by decide) (by decide) hW ?_
      refine aw_iload1 51 dX12_ofPicture_51 ?_
      refine rw_ld 52 3 (p) dX12_ofPicture_52 hW rfl (show p < 12 by omega) ?_
      refine aw_iret 53 dX12_ofPicture_53 rfl (Nat.zero_le _) (Nat.zero_le _) ?_
      refine ⟨?_, ?_⟩
      · unfold sOf
        first
          | (rw [if_pos rfl]; done)
          | (rw [if_neg (by decide), if_pos rfl]; done)
          | (rw [if_neg (by decide), if_neg (by decide), if_pos rfl]; rfl)
          | (rw [if_neg (by decide), if_neg (by decide), if_neg (by decide), if_pos rfl]; done)
          | (rw [if_neg hs0, if_neg hs1, if_neg hs2, if_neg hs3, if_neg (fun q => h77 q.1)]; done)
          | (rw [if_neg hs0, if_neg hs1, if_neg hs2, if_neg hs3, hcl, show 10 + k - 10 = k by omega, if_neg (fun q => h89 q.2)]; done)
          | (rw [if_neg hs0, if_neg hs1, if_neg hs2, if_neg hs3, hcl, show 10 + k - 10 = k by omega, if_pos ⟨h77, h89⟩]; done)
      · unfold tOf
        first
          | (rw [if_pos rfl]; exact hW)
          | (rw [if_neg (by first | decide | assumption)]; exact hW)
    by_cases hs2 : w = 2
    · subst hs2
      refine aw_tabIn 11 54 dX12_ofPicture_11 (by decide) (by decide) rfl (by decide) ?_
      refine aw_aload0 54 dX12_ofPicture_54 ?_
      refine aw_iload1 55 dX12_ofPicture_55 ?_
      refine rw_call1 56 dX12_ofPicture_56 (c_X12_sumOf hw hp) ckV_RX12_149 cd_X12_sumOf rfl hW rfl (Nat.le_of_ble_eq_true rfl) ⟨⟨by decide, by decide⟩, by decide, by decide⟩ rfl (fun M hW => ?_)
      refine aw_iret 59 dX12_ofPicture_59 rfl (Nat.zero_le _) (Nat.zero_le _) ?_
      refine ⟨?_, ?_⟩
      · unfold sOf
        first
          | (rw [if_pos rfl]; done)
          | (rw [if_neg (by decide), if_pos rfl]; done)
          | (rw [if_neg (by decide), if_neg (by decide), if_pos rfl]; rfl)
          | (rw [if_neg (by decide), if_neg (by decide), if_neg (by decide), if_pos rfl]; done)
          | (rw [if_neg hs0, if_neg hs1, if_neg hs2, if_neg hs3, if_neg (fun q => h77 q.1)]; done)
          | (rw [if_neg hs0, if_neg hs1, if_neg hs2, if_neg hs3, hcl, show 10 + k - 10 = k by omega, if_neg (fun q => h89 q.2)]; done)
          | (rw [if_neg hs0, if_neg hs1, if_neg hs2, if_neg hs3, hcl, show 10 + k - 10 = k by omega, if_pos ⟨h77, h89⟩]; done)
      · unfold tOf
        first
          | (rw [if_pos rfl]; exact hW)
          | (rw [if_neg (by first | decide | assumption)]; exact hW)
    by_cases hs3 : w = 3
    · subst hs3
      refine aw_tabIn 11 60 dX12_ofPicture_11 (by decide) (by decide) rfl (by decide) ?_
      refine aw_aload0 60 dX12_ofPicture_60 ?_
      refine aw_iload1 61 dX12_ofPicture_61 ?_
      refine rw_call1 62 dX12_ofPicture_62 (c_X12_rootOf hw hp) ckV_RX12_152 cd_X12_rootOf rfl hW rfl (Nat.le_of_ble_eq_true rfl) ⟨⟨by decide, by decide⟩, by decide, by decide⟩ rfl (fun M hW => ?_)
      refine aw_iret 65 dX12_ofPicture_65 rfl (Nat.zero_le _) (Nat.zero_le _) ?_
      refine ⟨?_, ?_⟩
      · unfold sOf
        first
          | (rw [if_pos rfl]; done)
          | (rw [if_neg (by decide), if_pos rfl]; done)
          | (rw [if_neg (by decide), if_neg (by decide), if_pos rfl]; rfl)
          | (rw [if_neg (by decide), if_neg (by decide), if_neg (by decide), if_pos rfl]; done)
          | (rw [if_neg hs0, if_neg hs1, if_neg hs2, if_neg hs3, if_neg (fun q => h77 q.1)]; done)
          | (rw [if_neg hs0, if_neg hs1, if_neg hs2, if_neg hs3, hcl, show 10 + k - 10 = k by omega, if_neg (fun q => h89 q.2)]; done)
          | (rw [if_neg hs0, if_neg hs1, if_neg hs2, if_neg hs3, hcl, show 10 + k - 10 = k by omega, if_pos ⟨h77, h89⟩]; done)
      · unfold tOf
        first
          | (rw [if_pos rfl]; exact hW)
          | (rw [if_neg (by first | decide | assumption)]; exact hW)
    have hso : w.toInt < 0 ∨ 3 < w.toInt := by
      have q0 := lv_neT (a := 0) hs0 (by decide)
      have q1 := lv_neT (a := 1) hs1 (by decide)
      have q2 := lv_neT (a := 2) hs2 (by decide)
      have q3 := lv_neT (a := 3) hs3 (by decide)
      omega
    refine aw_tabOut 11 66 dX12_ofPicture_11 hso (by decide) ?_
    refine aw_iload2 66 dX12_ofPicture_66 ?_
    refine aw_i2l 67 dX12_ofPicture_67 ?_
    refine aw_ldc2 68 (10) dX12_ofPicture_68 ckL_RX12_155 ?_
    refine aw_ldc2 71 (25) dX12_ofPicture_71 ckL_RX12_157 ?_
    refine sd_call1 74 dX12_ofPicture_74 (c_in2 (10) (25) (by decide) (by decide)) ckS_RX12_99 cd_X12_in rfl (Nat.le_of_ble_eq_true rfl) ⟨⟨by decide, by decide⟩, by decide, by decide⟩ rfl ?_
    refine aw_ifeq_b 77 109 dX12_ofPicture_77 (by decide) (fun h77 => ?_) (fun h77 => ?_)
    · refine aw_bipush 109 (-2) dX12_ofPicture_109 (by decide) ?_
      refine aw_iret 111 dX12_ofPicture_111 rfl (Nat.zero_le _) (Nat.zero_le _) ?_
      refine ⟨?_, ?_⟩
      · unfold sOf
        first
          | (rw [if_pos rfl]; done)
          | (rw [if_neg (by decide), if_pos rfl]; done)
          | (rw [if_neg (by decide), if_neg (by decide), if_pos rfl]; rfl)
          | (rw [if_neg (by decide), if_neg (by decide), if_neg (by decide), if_pos rfl]; done)
          | (rw [if_neg hs0, if_neg hs1, if_neg hs2, if_neg hs3, if_neg (fun q => h77 q.1)]; done)
          | (rw [if_neg hs0, if_neg hs1, if_neg hs2, if_neg hs3, hcl, show 10 + k - 10 = k by omega, if_neg (fun q => h89 q.2)]; done)
          | (rw [if_neg hs0, if_neg hs1, if_neg hs2, if_neg hs3, hcl, show 10 + k - 10 = k by omega, if_pos ⟨h77, h89⟩]; done)
      · unfold tOf
        first
          | (rw [if_pos rfl]; exact hW)
          | (rw [if_neg (by first | decide | assumption)]; exact hW)
    · obtain ⟨k, hk, rfl⟩ : ∃ k : Nat, k < 16 ∧ w = nI (10 + k) := by
        obtain ⟨z, hz, rfl⟩ := ir_of (v := w) (n := 26) ⟨by have := h77.1; omega, by have := h77.2; omega⟩ (by decide)
        rw [nI_toInt (by omega)] at h77
        exact ⟨z - 10, by omega, by rw [show 10 + (z - 10) = z by omega]⟩
      have hcl := nI_clamp (n := 10 + k) (by omega)
      refine aw_aload0 80 dX12_ofPicture_80 ?_
      refine aw_iload1 81 dX12_ofPicture_81 ?_
      refine aw_iload2 82 dX12_ofPicture_82 ?_
      refine aw_bipush 83 10 dX12_ofPicture_83 (by decide) ?_
      refine aw_isubN 85 (10 + k) (10) dX12_ofPicture_85 rfl rfl (by omega) ?_
      rw [show 10 + k - 10 = k by omega]
      refine rw_call1 86 dX12_ofPicture_86 (c_isThereN hw hp hk) ckV_RX12_135 cd_X12_isThere rfl hW rfl (Nat.le_of_ble_eq_true rfl) ⟨⟨by decide, by decide⟩, by decide, by decide⟩ rfl (fun M hW => ?_)
      refine aw_ifeq_b 89 109 dX12_ofPicture_89 (by decide) (fun h89 => ?_) (fun h89 => ?_)
      · refine aw_bipush 109 (-2) dX12_ofPicture_109 (by decide) ?_
        refine aw_iret 111 dX12_ofPicture_111 rfl (Nat.zero_le _) (Nat.zero_le _) ?_
        refine ⟨?_, ?_⟩
        · unfold sOf
          first
            | (rw [if_pos rfl]; done)
            | (rw [if_neg (by decide), if_pos rfl]; done)
            | (rw [if_neg (by decide), if_neg (by decide), if_pos rfl]; rfl)
            | (rw [if_neg (by decide), if_neg (by decide), if_neg (by decide), if_pos rfl]; done)
            | (rw [if_neg hs0, if_neg hs1, if_neg hs2, if_neg hs3, if_neg (fun q => h77 q.1)]; done)
            | (rw [if_neg hs0, if_neg hs1, if_neg hs2, if_neg hs3, hcl, show 10 + k - 10 = k by omega, if_neg (fun q => h89 q.2)]; done)
            | (rw [if_neg hs0, if_neg hs1, if_neg hs2, if_neg hs3, hcl, show 10 + k - 10 = k by omega, if_pos ⟨h77, h89⟩]; done)
        · unfold tOf
          first
            | (rw [if_pos rfl]; exact hW)
            | (rw [if_neg (by first | decide | assumption)]; exact hW)
      · refine aw_aload0 92 dX12_ofPicture_92 ?_
        refine rw_ga 93 4 dX12_ofPicture_93 ckF_RX12_16_12 (by decide) (by decide) hW ?_
        refine aw_bipush 96 16 dX12_ofPicture_96 (by decide) ?_
        refine aw_iload1 98 dX12_ofPicture_98 ?_
        refine aw_imulN 99 (16) (p) dX12_ofPicture_99 rfl rfl ?_
        refine aw_iload2 100 dX12_ofPicture_100 ?_
        refine aw_iaddN 101 (16 * p) (10 + k) dX12_ofPicture_101 rfl rfl ?_
        refine aw_bipush 102 10 dX12_ofPicture_102 (by decide) ?_
        refine aw_isubN 104 ((16 * p) + (10 + k)) (10) dX12_ofPicture_104 rfl rfl (by omega) ?_
        refine rw_ld 105 4 (16 * p + (10 + k) - 10) dX12_ofPicture_105 hW rfl (show 16 * p + (10 + k) - 10 < 192 by omega) ?_
        rw [show 16 * p + (10 + k) - 10 = 16 * p + k by omega]
        refine aw_goto 106 111 dX12_ofPicture_106 (by decide) ?_
        refine aw_iret 111 dX12_ofPicture_111 rfl (Nat.zero_le _) (Nat.zero_le _) ?_
        refine ⟨?_, ?_⟩
        · unfold sOf
          first
            | (rw [if_pos rfl]; done)
            | (rw [if_neg (by decide), if_pos rfl]; done)
            | (rw [if_neg (by decide), if_neg (by decide), if_pos rfl]; rfl)
            | (rw [if_neg (by decide), if_neg (by decide), if_neg (by decide), if_pos rfl]; done)
            | (rw [if_neg hs0, if_neg hs1, if_neg hs2, if_neg hs3, if_neg (fun q => h77 q.1)]; done)
            | (rw [if_neg hs0, if_neg hs1, if_neg hs2, if_neg hs3, hcl, show 10 + k - 10 = k by omega, if_neg (fun q => h89 q.2)]; done)
            | (rw [if_neg hs0, if_neg hs1, if_neg hs2, if_neg hs3, hcl, show 10 + k - 10 = k by omega, if_pos ⟨h77, h89⟩]; done)
        · unfold tOf
          first
            | (rw [if_pos rfl]; exact hW)
            | (rw [if_neg (by first | decide | assumption)]; exact hW)
  · exact absurd hip h5

