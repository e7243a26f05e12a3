/-! the reference: copy, hide, picture, proves, best (rows laid by gen/ref6.py) -/
abbrev bey (i : Int32) (c : Int64) (s : Int32) : Prop := i < 0 ∨ c < 0 ∨ s.toInt64 < i.toInt64 + c
theorem bey_no {i n s : Nat} (hs : s ≤ 60) (h : i + n ≤ s) : ¬ bey (nI i) (nI n).toInt64 (nI s) := by
  unfold bey
  rw [nI_l (by omega), nI_l (by omega), nI_l (by omega), lN_add, lN_lt (by omega) (by omega)]
  rintro (q | q | q)
  · exact absurd q (nI_pos (by omega))
  · exact absurd ((lN_lt (a := n) (b := 0) (by omega) (by omega)).mp q) (by omega)
  · omega
def fCp (τ : TT) (k o : Nat) (i j n : Int32) : Int32 := if τ 28 k < 0 ∨ τ 28 o < 0 then 1 else if ¬ τ 29 k = τ 29 o then 2 else if bey i n.toInt64 (τ 28 k) ∨ bey j n.toInt64 (τ 28 o) then 3 else 0

def rmX12_copy : Room := { frames := 2, cells := 0, slots := 0, locals := 45 }
set_option maxHeartbeats 4000000 in
set_option maxRecDepth 100000 in
theorem n_X12_copy {τ : TT} {v i w j n : Int32} (hno : ¬ irg v 0 3 ∨ ¬ irg w 0 3) : RD mX12_copy rmX12_copy [.int v, .int i, .int w, .int j, .int n] τ (some (.int (-1))) (tu τ 0 0 0) := by
  intro M0 hW0
  refine am_of rfl rfl (ls := [some (.ref 25), some (.int v), some (.int i), some (.int w), some (.int j), some (.int n), none]) rfl ?_
  suffices HH : ∀ M, RO τ M0 M → AW mX12_copy rmX12_copy (fun r' M' => r' = (some (.int (-1))) ∧ RO (tu τ 0 0 0) M0 M') 0 [some (.ref 25), some (.int v), some (.int i), some (.int w), some (.int j), some (.int n), none] [] M 0 0 from HH M0 ⟨hW0, Off.rf M0⟩
  intro M hW
  refine aw_iload1 0 dX12_copy_0 ?_
  refine sd_call1 1 dX12_copy_1 (c_X12_noSheet) ckS_RX12_110 cd_X12_noSheet rfl (Nat.le_of_ble_eq_true rfl) ⟨⟨by decide, by decide⟩, by decide, by decide⟩ rfl ?_
  refine aw_ifne_b 4 14 dX12_copy_4 (by decide) (fun h4 => ?_) (fun h4 => ?_)
  · refine aw_aload0 14 dX12_copy_14 ?_
    refine aw_icm1 15 dX12_copy_15 ?_
    refine rw_call1 16 dX12_copy_16 c_X12_refused ckV_RX12_114 cd_X12_refused rfl hW rfl (Nat.le_of_ble_eq_true rfl) ⟨⟨by decide, by decide⟩, by decide, by decide⟩ rfl (fun M hW => ?_)
    refine aw_iret 19 dX12_copy_19 rfl (Nat.zero_le _) (Nat.zero_le _) ?_
    exact ⟨rfl, hW⟩
  · refine aw_iload3 7 dX12_copy_7 ?_
    refine sd_call1 8 dX12_copy_8 (c_X12_noSheet) ckS_RX12_110 cd_X12_noSheet rfl (Nat.le_of_ble_eq_true rfl) ⟨⟨by decide, by decide⟩, by decide, by decide⟩ rfl ?_
    refine aw_ifeq_b 11 20 dX12_copy_11 (by decide) (fun h11 => ?_) (fun h11 => ?_)
    · exact absurd hno (fun q => q.elim h4 h11)
    · refine aw_aload0 14 dX12_copy_14 ?_
      refine aw_icm1 15 dX12_copy_15 ?_
      refine rw_call1 16 dX12_copy_16 c_X12_refused ckV_RX12_114 cd_X12_refused rfl hW rfl (Nat.le_of_ble_eq_true rfl) ⟨⟨by decide, by decide⟩, by decide, by decide⟩ rfl (fun M hW => ?_)
      refine aw_iret 19 dX12_copy_19 rfl (Nat.zero_le _) (Nat.zero_le _) ?_
      exact ⟨rfl, hW⟩

set_option maxHeartbeats 4000000 in
set_option maxRecDepth 100000 in
theorem n2_X12_copy {τ : TT} {k o : Nat} {i j n : Int32} (hk : k < 4) (ho : o < 4) (hf : ¬ fCp τ k o i j n = 0) : RD mX12_copy rmX12_copy [.int (nI k), .int i, .int (nI o), .int j, .int n] τ (some (.int (-10 - fCp τ k o i j n))) (tu τ 0 0 (fCp τ k o i j n)) := by
  intro M0 hW0
  refine am_of rfl rfl (ls := [some (.ref 25), some (.int (nI k)), some (.int i), some (.int (nI o)), some (.int j), some (.int n), none]) rfl ?_
  suffices HH : ∀ M, RO τ M0 M → AW mX12_copy rmX12_copy (fun r' M' => r' = (some (.int (-10 - fCp τ k o i j n))) ∧ RO (tu τ 0 0 (fCp τ k o i j n)) M0 M') 0 [some (.ref 25), some (.int (nI k)), some (.int i), some (.int (nI o)), some (.int j), some (.int n), none] [] M 0 0 from HH M0 ⟨hW0, Off.rf M0⟩
  intro M hW
  have hik : irg (nI k) 0 3 := irg_nI (b := 3) (by decide) (by omega)
  have hio : irg (nI o) 0 3 := irg_nI (b := 3) (by decide) (by omega)
  refine aw_iload1 0 dX12_copy_0 ?_
  refine sd_call1 1 dX12_copy_1 (c_X12_noSheet) ckS_RX12_110 cd_X12_noSheet rfl (Nat.le_of_ble_eq_true rfl) ⟨⟨by decide, by decide⟩, by decide, by decide⟩ rfl ?_
  refine aw_ifne_b 4 14 dX12_copy_4 (by decide) (fun h4 => ?_) (fun h4 => ?_)
  · first | exact absurd hik h4 | exact absurd hio h11
  · refine aw_iload3 7 dX12_copy_7 ?_
    refine sd_call1 8 dX12_copy_8 (c_X12_noSheet) ckS_RX12_110 cd_X12_noSheet rfl (Nat.le_of_ble_eq_true rfl) ⟨⟨by decide, by decide⟩, by decide, by decide⟩ rfl ?_
    refine aw_ifeq_b 11 20 dX12_copy_11 (by decide) (fun h11 => ?_) (fun h11 => ?_)
    · refine aw_aload0 20 dX12_copy_20 ?_
      refine rw_ga 21 28 dX12_copy_21 ckF_RX12_67_12 (by decide) (by decide) hW ?_
      refine aw_iload1 24 dX12_copy_24 ?_
      refine rw_ld 25 28 (k) dX12_copy_25 hW rfl (show k < 4 by omega) ?_
      refine aw_if_lt 26 38 dX12_copy_26 (by decide) (fun h26 => ?_) (fun h26 => ?_)
      · have hf1 : fCp τ k o i j n = 1 := by
          unfold fCp
          first
            | rw [if_pos (Or.inl h26)]
            | rw [if_pos (Or.inr (Int32.not_le.mp h35))]
        rw [hf1]
        refine aw_aload0 38 dX12_copy_38 ?_
        refine aw_ic1 39 dX12_copy_39 ?_
        refine rw_call1 40 dX12_copy_40 c_X12_failed ckV_RX12_89 cd_X12_failed rfl hW rfl (Nat.le_of_ble_eq_true rfl) ⟨⟨by decide, by decide⟩, by decide, by decide⟩ rfl (fun M hW => ?_)
        refine aw_iret 43 dX12_copy_43 rfl (Nat.zero_le _) (Nat.zero_le _) ?_
        exact ⟨rfl, hW⟩
      · refine aw_aload0 29 dX12_copy_29 ?_
        refine rw_ga 30 28 dX12_copy_30 ckF_RX12_67_12 (by decide) (by decide) hW ?_
        refine aw_iload3 33 dX12_copy_33 ?_
        refine rw_ld 34 28 (o) dX12_copy_34 hW rfl (show o < 4 by omega) ?_
        refine aw_if_ge 35 44 dX12_copy_35 (by decide) (fun h35 => ?_) (fun h35 => ?_)
        · refine aw_aload0 44 dX12_copy_44 ?_
          refine rw_ga 45 29 dX12_copy_45 ckF_RX12_70_12 (by decide) (by decide) hW ?_
          refine aw_iload1 48 dX12_copy_48 ?_
          refine rw_ld 49 29 (k) dX12_copy_49 hW rfl (show k < 4 by omega) ?_
          refine aw_aload0 50 dX12_copy_50 ?_
          refine rw_ga 51 29 dX12_copy_51 ckF_RX12_70_12 (by decide) (by decide) hW ?_
          refine aw_iload3 54 dX12_copy_54 ?_
          refine rw_ld 55 29 (o) dX12_copy_55 hW rfl (show o < 4 by omega) ?_
          refine aw_icmp_eq 56 65 dX12_copy_56 (by decide) (fun h56 => ?_) (fun h56 => ?_)
          · refine aw_iload2 65 dX12_copy_65 ?_
            refine aw_iload5 66 dX12_copy_66 ?_
            refine aw_i2l 68 dX12_copy_68 ?_
            refine aw_aload0 69 dX12_copy_69 ?_
            refine rw_ga 70 28 dX12_copy_70 ckF_RX12_67_12 (by decide) (by decide) hW ?_
            refine aw_iload1 73 dX12_copy_73 ?_
            refine rw_ld 74 28 (k) dX12_copy_74 hW rfl (show k < 4 by omega) ?_
            refine sd_call1 75 dX12_copy_75 (c_X12_isBeyond) ckS_RX12_93 cd_X12_isBeyond rfl (Nat.le_of_ble_eq_true rfl) ⟨⟨by decide, by decide⟩, by decide, by decide⟩ rfl ?_
            refine aw_ifne_b 78 98 dX12_copy_78 (by decide) (fun h78 => ?_) (fun h78 => ?_)
            · have hf1 : fCp τ k o i j n = 3 := by
                unfold fCp
                rw [if_neg (fun q => q.elim h26 (Int32.not_lt.mpr h35)), if_neg (nn h56)]
                first
                  | rw [if_pos (Or.inl h78)]
                  | rw [if_pos (Or.inr h95)]
              rw [hf1]
              refine aw_aload0 98 dX12_copy_98 ?_
              refine aw_ic3 99 dX12_copy_99 ?_
              refine rw_call1 100 dX12_copy_100 c_X12_failed ckV_RX12_89 cd_X12_failed rfl hW rfl (Nat.le_of_ble_eq_true rfl) ⟨⟨by decide, by decide⟩, by decide, by decide⟩ rfl (fun M hW => ?_)
              refine aw_iret 103 dX12_copy_103 rfl (Nat.zero_le _) (Nat.zero_le _) ?_
              exact ⟨rfl, hW⟩
            · refine aw_iload4 81 dX12_copy_81 ?_
              refine aw_iload5 83 dX12_copy_83 ?_
              refine aw_i2l 85 dX12_copy_85 ?_
              refine aw_aload0 86 dX12_copy_86 ?_
              refine rw_ga 87 28 dX12_copy_87 ckF_RX12_67_12 (by decide) (by decide) hW ?_
              refine aw_iload3 90 dX12_copy_90 ?_
              refine rw_ld 91 28 (o) dX12_copy_91 hW rfl (show o < 4 by omega) ?_
              refine sd_call1 92 dX12_copy_92 (c_X12_isBeyond) ckS_RX12_93 cd_X12_isBeyond rfl (Nat.le_of_ble_eq_true rfl) ⟨⟨by decide, by decide⟩, by decide, by decide⟩ rfl ?_
              refine aw_ifeq_b 95 104 dX12_copy_95 (by decide) (fun h95 => ?_) (fun h95 => ?_)
              · exfalso
                apply hf
                unfold fCp
                rw [if_neg (fun q => q.elim h26 (Int32.not_lt.mpr h35)), if_neg (nn h56), if_neg (fun q => q.elim h78 h95)]
              · have hf1 : fCp τ k o i j n = 3 := by
                  unfold fCp
                  rw [if_neg (fun q => q.elim h26 (Int32.not_lt.mpr h35)), if_neg (nn h56)]
                  first
                    | rw [if_pos (Or.inl h78)]
                    | rw [if_pos (Or.inr h95)]
                rw [hf1]
                refine aw_aload0 98 dX12_copy_98 ?_
                refine aw_ic3 99 dX12_copy_99 ?_
                refine rw_call1 100 dX12_copy_100 c_X12_failed ckV_RX12_89 cd_X12_failed rfl hW rfl (Nat.le_of_ble_eq_true rfl) ⟨⟨by decide, by decide⟩, by decide, by decide⟩ rfl (fun M hW => ?_)
                refine aw_iret 103 dX12_copy_103 rfl (Nat.zero_le _) (Nat.zero_le _) ?_
                exact ⟨rfl, hW⟩
          · have hf1 : fCp τ k o i j n = 2 := by
              unfold fCp
              rw [if_neg (fun q => q.elim h26 (Int32.not_lt.mpr h35)), if_pos h56]
            rw [hf1]
            refine aw_aload0 59 dX12_copy_59 ?_
            refine aw_ic2 60 dX12_copy_60 ?_
            refine rw_call1 61 dX12_copy_61 c_X12_failed ckV_RX12_89 cd_X12_failed rfl hW rfl (Nat.le_of_ble_eq_true rfl) ⟨⟨by decide, by decide⟩, by decide, by decide⟩ rfl (fun M hW => ?_)
            refine aw_iret 64 dX12_copy_64 rfl (Nat.zero_le _) (Nat.zero_le _) ?_
            exact ⟨rfl, hW⟩
        · have hf1 : fCp τ k o i j n = 1 := by
            unfold fCp
            first
              | rw [if_pos (Or.inl h26)]
              | rw [if_pos (Or.inr (Int32.not_le.mp h35))]
          rw [hf1]
          refine aw_aload0 38 dX12_copy_38 ?_
          refine aw_ic1 39 dX12_copy_39 ?_
          refine rw_call1 40 dX12_copy_40 c_X12_failed ckV_RX12_89 cd_X12_failed rfl hW rfl (Nat.le_of_ble_eq_true rfl) ⟨⟨by decide, by decide⟩, by decide, by decide⟩ rfl (fun M hW => ?_)
          refine aw_iret 43 dX12_copy_43 rfl (Nat.zero_le _) (Nat.zero_le _) ?_
          exact ⟨rfl, hW⟩
    · first | exact absurd hik h4 | exact absurd hio h11

def tCp (τ : TT) (k o i j n : Nat) : TT := tu (ov (ov τ 31 0 n (fun b => τ 30 (60 * k + i + b))) 30 (60 * o + j) (60 * o + j + n) (fun b => τ 30 (60 * k + i + (b - (60 * o + j))))) 0 0 0

set_option maxHeartbeats 4000000 in
set_option maxRecDepth 100000 in
theorem c_X12_copy {τ : TT} {k o i j n : Nat} (hs : WS τ) (hk : k < 4) (ho : o < 4) (h0 : ¬ τ 28 k < 0) (h1 : ¬ τ 28 o < 0) (hl : τ 29 k = τ 29 o) (hi : i + n ≤ ssz τ k) (hj : j + n ≤ ssz τ o) : RD mX12_copy rmX12_copy [.int (nI k), .int (nI i), .int (nI o), .int (nI j), .int (nI n)] τ (some (.int (nI n))) (tCp τ k o i j n) := by
  intro M0 hW0
  refine am_of rfl rfl (ls := [some (.ref 25), some (.int (nI k)), some (.int (nI i)), some (.int (nI o)), some (.int (nI j)), some (.int (nI n)), none]) rfl ?_
  suffices HH : ∀ M, RO τ M0 M → AW mX12_copy rmX12_copy (fun r' M' => r' = (some (.int (nI n))) ∧ RO (tCp τ k o i j n) M0 M') 0 [some (.ref 25), some (.int (nI k)), some (.int (nI i)), some (.int (nI o)), some (.int (nI j)), some (.int (nI n)), none] [] M 0 0 from HH M0 ⟨hW0, Off.rf M0⟩
  intro M hW
  have hik : irg (nI k) 0 3 := irg_nI (b := 3) (by decide) (by omega)
  have hio : irg (nI o) 0 3 := irg_nI (b := 3) (by decide) (by omega)
  have hsk := hs.ok hk h0
  have hso := hs.ok ho h1
  have hbk := bey_no hsk.1 hi
  have hbo := bey_no hso.1 hj
  rw [← hsk.2] at hbk
  rw [← hso.2] at hbo
  refine aw_iload1 0 dX12_copy_0 ?_
  refine sd_call1 1 dX12_copy_1 (c_X12_noSheet) ckS_RX12_110 cd_X12_noSheet rfl (Nat.le_of_ble_eq_true rfl) ⟨⟨by decide, by decide⟩, by decide, by decide⟩ rfl ?_
  refine aw_ifne_b 4 14 dX12_copy_4 (by decide) (fun h4 => ?_) (fun h4 => ?_)
  · first | exact absurd hik h4 | exact absurd hio h11
  · refine aw_iload3 7 dX12_copy_7 ?_
    refine sd_call1 8 dX12_copy_8 (c_X12_noSheet) ckS_RX12_110 cd_X12_noSheet rfl (Nat.le_of_ble_eq_true rfl) ⟨⟨by decide, by decide⟩, by decide, by decide⟩ rfl ?_
    refine aw_ifeq_b 11 20 dX12_copy_11 (by decide) (fun h11 => ?_) (fun h11 => ?_)
    · refine aw_aload0 20 dX12_copy_20 ?_
      refine rw_ga 21 28 dX12_copy_21 ckF_RX12_67_12 (by decide) (by decide) hW ?_
      refine aw_iload1 24 dX12_copy_24 ?_
      refine rw_ld 25 28 (k) dX12_copy_25 hW rfl (show k < 4 by omega) ?_
      refine aw_if_lt 26 38 dX12_copy_26 (by decide) (fun h26 => ?_) (fun h26 => ?_)
      · exact absurd h26 h0
      · refine aw_aload0 29 dX12_copy_29 ?_
        refine rw_ga 30 28 dX12_copy_30 ckF_RX12_67_12 (by decide) (by decide) hW ?_
        refine aw_iload3 33 dX12_copy_33 ?_
        refine rw_ld 34 28 (o) dX12_copy_34 hW rfl (show o < 4 by omega) ?_
        refine aw_if_ge 35 44 dX12_copy_35 (by decide) (fun h35 => ?_) (fun h35 => ?_)
        · refine aw_aload0 44 dX12_copy_44 ?_
          refine rw_ga 45 29 dX12_copy_45 ckF_RX12_70_12 (by decide) (by decide) hW ?_
          refine aw_iload1 48 dX12_copy_48 ?_
          refine rw_ld 49 29 (k) dX12_copy_49 hW rfl (show k < 4 by omega) ?_
          refine aw_aload0 50 dX12_copy_50 ?_
          refine rw_ga 51 29 dX12_copy_51 ckF_RX12_70_12 (by decide) (by decide) hW ?_
          refine aw_iload3 54 dX12_copy_54 ?_
          refine rw_ld 55 29 (o) dX12_copy_55 hW rfl (show o < 4 by omega) ?_
          refine aw_icmp_eq 56 65 dX12_copy_56 (by decide) (fun h56 => ?_) (fun h56 => ?_)
          · refine aw_iload2 65 dX12_copy_65 ?_
            refine aw_iload5 66 dX12_copy_66 ?_
            refine aw_i2l 68 dX12_copy_68 ?_
            refine aw_aload0 69 dX12_copy_69 ?_
            refine rw_ga 70 28 dX12_copy_70 ckF_RX12_67_12 (by decide) (by decide) hW ?_
            refine aw_iload1 73 dX12_copy_73 ?_
            refine rw_ld 74 28 (k) dX12_copy_74 hW rfl (show k < 4 by omega) ?_
            refine sd_call1 75 dX12_copy_75 (c_X12_isBeyond) ckS_RX12_93 cd_X12_isBeyond rfl (Nat.le_of_ble_eq_true rfl) ⟨⟨by decide, by decide⟩, by decide, by decide⟩ rfl ?_
            refine aw_ifne_b 78 98 dX12_copy_78 (by decide) (fun h78 => ?_) (fun h78 => ?_)
            · first | exact absurd h78 hbk | exact absurd h95 hbo
            · refine aw_iload4 81 dX12_copy_81 ?_
              refine aw_iload5 83 dX12_copy_83 ?_
              refine aw_i2l 85 dX12_copy_85 ?_
              refine aw_aload0 86 dX12_copy_86 ?_
              refine rw_ga 87 28 dX12_copy_87 ckF_RX12_67_12 (by decide) (by decide) hW ?_
              refine aw_iload3 90 dX12_copy_90 ?_
              refine rw_ld 91 28 (o) dX12_copy_91 hW rfl (show o < 4 by omega) ?_
              refine sd_call1 92 dX12_copy_92 (c_X12_isBeyond) ckS_RX12_93 cd_X12_isBeyond rfl (Nat.le_of_ble_eq_true rfl) ⟨⟨by decide, by decide⟩, by decide, by decide⟩ rfl ?_
              refine aw_ifeq_b 95 104 dX12_copy_95 (by decide) (fun h95 => ?_) (fun h95 => ?_)
              · refine aw_ic0 104 dX12_copy_104 ?_
                refine aw_istore6 105 dX12_copy_105 rfl ?_
                have LP107 : ∀ (dd : Nat) (x : Nat) (M : Mem), n - x = dd → x ≤ n → RO (ov τ 31 0 x (fun b => τ 30 (60 * k + i + b))) M0 M → AW mX12_copy rmX12_copy (fun r' M' => r' = (some (.int (nI n))) ∧ RO (tCp τ k o i j n) M0 M') 107 [some (.ref 25), some (.int (nI k)), some (.int (nI i)), some (.int (nI o)), some (.int (nI j)), some (.int (nI n)), some (.int (nI x))] [] M 0 0 := by
                  intro dd
                  induction dd using Nat.strongRecOn with
                  | _ dd ih107 =>
                    intro x M hdd hx hW
                    refine aw_iload6 107 dX12_copy_107 ?_
                    refine aw_iload5 109 dX12_copy_109 ?_
                    refine aw_icmp_geN 111 141 (x) (n) dX12_copy_111 (by decide) rfl rfl (by omega) (by omega) (fun h111 => ?_) (fun h111 => ?_)
                    · have he : n = x := by omega
                      subst he
                      refine aw_ic0 141 dX12_copy_141 ?_
                      refine aw_istore6 142 dX12_copy_142 rfl ?_
                      have LP144 : ∀ (dd : Nat) (y : Nat) (M : Mem), n - y = dd → y ≤ n → RO (ov (ov τ 31 0 n (fun b => τ 30 (60 * k + i + b))) 30 (60 * o + j) (60 * o + j + y) (fun b => τ 30 (60 * k + i + (b - (60 * o + j))))) M0 M → AW mX12_copy rmX12_copy (fun r' M' => r' = (some (.int (nI n))) ∧ RO (tCp τ k o i j n) M0 M') 144 [some (.ref 25), some (.int (nI k)), some (.int (nI i)), some (.int (nI o)), some (.int (nI j)), some (.int (nI n)), some (.int (nI y))] [] M 0 0 := by
                        intro dd
                        induction dd using Nat.strongRecOn with
                        | _ dd ih144 =>
                          intro y M hdd hy hW
                          refine aw_iload6 144 dX12_copy_144 ?_
                          refine aw_iload5 146 dX12_copy_146 ?_
                          refine aw_icmp_geN 148 179 (y) (n) dX12_copy_148 (by decide) rfl rfl (by omega) (by omega) (fun h148 => ?_) (fun h148 => ?_)
                          · refine aw_aload0 179 dX12_copy_179 ?_
                            refine aw_iload5 180 dX12_copy_180 ?_
                            refine rw_call1 182 dX12_copy_182 c_X12_refused ckV_RX12_114 cd_X12_refused rfl hW rfl (Nat.le_of_ble_eq_true rfl) ⟨⟨by decide, by decide⟩, by decide, by decide⟩ rfl (fun M hW => ?_)
                            refine aw_iret 185 dX12_copy_185 rfl (Nat.zero_le _) (Nat.zero_le _) ?_
                            have he : n = y := by omega
                            subst he
                            exact ⟨rfl, hW⟩
                          · refine aw_aload0 151 dX12_copy_151 ?_
                            refine rw_ga 152 30 dX12_copy_152 ckF_RX12_73_12 (by decide) (by decide) hW ?_
                            refine aw_bipush 155 60 dX12_copy_155 (by decide) ?_
                            refine aw_iload3 157 dX12_copy_157 ?_
                            refine aw_imulN 158 (60) (o) dX12_copy_158 rfl rfl ?_
                            refine aw_iload4 159 dX12_copy_159 ?_
                            refine aw_iaddN 161 (60 * o) (j) dX12_copy_161 rfl rfl ?_
                            refine aw_iload6 162 dX12_copy_162 ?_
                            refine aw_iaddN 164 ((60 * o) + j) (y) dX12_copy_164 rfl rfl ?_
                            refine aw_aload0 165 dX12_copy_165 ?_
                            refine rw_ga 166 31 dX12_copy_166 ckF_RX12_76_12 (by decide) (by decide) hW ?_
                            refine aw_iload6 169 dX12_copy_169 ?_
                            refine rw_ld 171 31 (y) dX12_copy_171 hW rfl (show y < 60 by omega) ?_
                            refine aw_topi (show _ = τ 30 (60 * k + i + y) by rw [ov_ne (by decide), ov_in (by omega)]) ?_
                            refine rw_st 172 30 (((60 * o) + j) + y) dX12_copy_172 hW rfl (show ((60 * o) + j) + y < 240 by omega) (fun M hW => ?_)
                            replace hW := ro_eq hW (ov_up (f := fun b => τ 30 (60 * k + i + (b - (60 * o + j)))) (by omega) (show _ = τ 30 (60 * k + i + (60 * o + j + y - (60 * o + j))) by rw [show 60 * o + j + y - (60 * o + j) = y by omega]))
                            refine aw_iinc6 173 (nI (y + 1)) dX12_copy_173 (nI_1 _) rfl ?_
                            refine aw_goto 176 144 dX12_copy_176 (by decide) ?_
                            exact ih144 _ (by omega) (y + 1) M rfl (by omega) hW
                      exact LP144 _ 0 M rfl (Nat.zero_le _) (ro_eq hW ov_nil.symm)
                    · refine aw_aload0 114 dX12_copy_114 ?_
                      refine rw_ga 115 31 dX12_copy_115 ckF_RX12_76_12 (by decide) (by decide) hW ?_
                      refine aw_iload6 118 dX12_copy_118 ?_
                      refine aw_aload0 120 dX12_copy_120 ?_
                      refine rw_ga 121 30 dX12_copy_121 ckF_RX12_73_12 (by decide) (by decide) hW ?_
                      refine aw_bipush 124 60 dX12_copy_124 (by decide) ?_
                      refine aw_iload1 126 dX12_copy_126 ?_
                      refine aw_imulN 127 (60) (k) dX12_copy_127 rfl rfl ?_
                      refine aw_iload2 128 dX12_copy_128 ?_
                      refine aw_iaddN 129 (60 * k) (i) dX12_copy_129 rfl rfl ?_
                      refine aw_iload6 130 dX12_copy_130 ?_
                      refine aw_iaddN 132 ((60 * k) + i) (x) dX12_copy_132 rfl rfl ?_
                      refine rw_ld 133 30 (((60 * k) + i) + x) dX12_copy_133 hW rfl (show ((60 * k) + i) + x < 240 by omega) ?_
                      refine aw_topi (show _ = τ 30 (60 * k + i + x) by rw [ov_ne (by decide)]) ?_
                      refine rw_st 134 31 (x) dX12_copy_134 hW rfl (show x < 60 by omega) (fun M hW => ?_)
                      replace hW := ro_eq hW (ov_up (f := fun b => τ 30 (60 * k + i + b)) (by omega) rfl)
                      refine aw_iinc6 135 (nI (x + 1)) dX12_copy_135 (nI_1 _) rfl ?_
                      refine aw_goto 138 107 dX12_copy_138 (by decide) ?_
                      exact ih107 _ (by omega) (x + 1) M rfl (by omega) hW
                exact LP107 _ 0 M rfl (Nat.zero_le _) (ro_eq hW ov_nil.symm)
              · first | exact absurd h78 hbk | exact absurd h95 hbo
          · exact absurd hl h56
        · exact absurd (Int32.not_le.mp h35) h1
    · first | exact absurd hik h4 | exact absurd hio h11

def flp (v : Int32) : Int32 := if v = 0 then 1 else v - 1
def hdT (τ : TT) (p : Nat) (mark : Int32) : Nat → TT
  | 0 => τ
  | k + 1 => if soI (hdT τ p mark k) p k mark then hdT τ p mark k else tu (hdT τ p mark k) 4 (16 * p + plc τ p k) (flp (hdT τ p mark k 4 (16 * p + plc τ p k)))
def hdN (τ : TT) (p : Nat) (mark : Int32) : Nat → Int32
  | 0 => 0
  | k + 1 => if soI (hdT τ p mark k) p k mark then hdN τ p mark k else hdN τ p mark k + 1
theorem hdT_ne {τ : TT} {p k i : Nat} {mark : Int32} (h : i ≠ 4) : hdT τ p mark k i = τ i := by
  induction k with
  | zero => rfl
  | succ k ih =>
    show (ite _ _ _ : TT) i = _
    by_cases hs : soI (hdT τ p mark k) p k mark
    · rw [if_pos hs, ih]
    · rw [if_neg hs, tu_ne h, ih]
theorem hd_wd {τ : TT} {p k : Nat} {mark : Int32} (q : Nat) : wd (hdT τ p mark k) q = wd τ q := by unfold wd; rw [hdT_ne (by decide)]
theorem hd_hg {τ : TT} {p k : Nat} {mark : Int32} (q : Nat) : hg (hdT τ p mark k) q = hg τ q := by unfold hg; rw [hdT_ne (by decide)]
theorem hd_plc {τ : TT} {p k : Nat} {mark : Int32} (q j : Nat) : plc (hdT τ p mark k) q j = plc τ q j := by unfold plc; rw [hd_wd]
theorem hd_nP {τ : TT} {p k : Nat} {mark : Int32} : nP (hdT τ p mark k) = nP τ := by unfold nP; rw [hdT_ne (by decide)]
theorem hd_WP {τ : TT} {p k : Nat} {mark : Int32} (h : WP τ) : WP (hdT τ p mark k) := h.of (hdT_ne (by decide)) (hdT_ne (by decide)) (hdT_ne (by decide))

def rmX12_hide : Room := { frames := 2, cells := 0, slots := 0, locals := 46 }
set_option maxHeartbeats 4000000 in
set_option maxRecDepth 100000 in
theorem n_X12_hide {τ : TT} {v w : Int32} (hw : WP τ) (hno : ¬ ir v (nP τ)) : RD mX12_hide rmX12_hide [.int v, .int w] τ (some (.int (-1))) (τ) := by
  intro M0 hW0
  refine am_of rfl rfl (ls := [some (.ref 25), some (.int v), some (.int w), none, none, none]) rfl ?_
  suffices HH : ∀ M, RO τ M0 M → AW mX12_hide rmX12_hide (fun r' M' => r' = (some (.int (-1))) ∧ RO (τ) M0 M') 0 [some (.ref 25), some (.int v), some (.int w), none, none, none] [] M 0 0 from HH M0 ⟨hW0, Off.rf M0⟩
  intro M hW
  refine aw_aload0 0 dX12_hide_0 ?_
  refine aw_iload1 1 dX12_hide_1 ?_
  refine rw_call1 2 dX12_hide_2 (c_X12_noPicture hw) ckV_RX12_146 cd_X12_noPicture rfl hW rfl (Nat.le_of_ble_eq_true rfl) ⟨⟨by decide, by decide⟩, by decide, by decide⟩ rfl (fun M hW => ?_)
  refine aw_ifeq_b 5 10 dX12_hide_5 (by decide) (fun h5 => ?_) (fun h5 => ?_)
  · exact absurd hno h5
  · refine aw_icm1 8 dX12_hide_8 ?_
    refine aw_iret 9 dX12_hide_9 rfl (Nat.zero_le _) (Nat.zero_le _) ?_
    exact ⟨rfl, hW⟩

set_option maxHeartbeats 4000000 in
set_option maxRecDepth 100000 in
theorem n2_X12_hide {τ : TT} {p : Nat} {w : Int32} (hw : WP τ) (hp : p < nP τ) (hm : ¬ irg w 0 255) : RD mX12_hide rmX12_hide [.int (nI p), .int w] τ (some (.int (-2))) (τ) := by
  intro M0 hW0
  refine am_of rfl rfl (ls := [some (.ref 25), some (.int (nI p)), some (.int w), none, none, none]) rfl ?_
  suffices HH : ∀ M, RO τ M0 M → AW mX12_hide rmX12_hide (fun r' M' => r' = (some (.int (-2))) ∧ RO (τ) M0 M') 0 [some (.ref 25), some (.int (nI p)), some (.int w), none, none, none] [] M 0 0 from HH M0 ⟨hW0, Off.rf M0⟩
  intro M hW
  have hn12 := hw.1.1
  have hwd := (hw.2 p hp).1
  have hhg := (hw.2 p hp).2
  have hip := ir_nI (n := nP τ) (by omega) hp
  refine aw_aload0 0 dX12_hide_0 ?_
  refine aw_iload1 1 dX12_hide_1 ?_
  refine rw_call1 2 dX12_hide_2 (c_X12_noPicture hw) ckV_RX12_146 cd_X12_noPicture rfl hW rfl (Nat.le_of_ble_eq_true rfl) ⟨⟨by decide, by decide⟩, by decide, by decide⟩ rfl (fun M hW => ?_)
  refine aw_ifeq_b 5 10 dX12_hide_5 (by decide) (fun h5 => ?_) (fun h5 => ?_)
  · refine aw_iload2 10 dX12_hide_10 ?_
    refine sd_call1 11 dX12_hide_11 (c_X12_isMark) ckS_RX12_267 cd_X12_isMark rfl (Nat.le_of_ble_eq_true rfl) ⟨⟨by decide, by decide⟩, by decide, by decide⟩ rfl ?_
    refine aw_ifne_b 14 20 dX12_hide_14 (by decide) (fun h14 => ?_) (fun h14 => ?_)
    · exact absurd h14 hm
    · refine aw_bipush 17 (-2) dX12_hide_17 (by decide) ?_
      refine aw_iret 19 dX12_hide_19 rfl (Nat.zero_le _) (Nat.zero_le _) ?_
      exact ⟨rfl, hW⟩
  · exact absurd hip h5

set_option maxHeartbeats 4000000 in
set_option maxRecDepth 100000 in
theorem c_X12_hide {τ : TT} {p : Nat} {w : Int32} (hw : WP τ) (hp : p < nP τ) (hm : irg w 0 255) : RD mX12_hide rmX12_hide [.int (nI p), .int w] τ (some (.int (hdN τ p w (min 8 (wd τ p * hg τ p))))) (hdT τ p w (min 8 (wd τ p * hg τ p))) := by
  intro M0 hW0
  refine am_of rfl rfl (ls := [some (.ref 25), some (.int (nI p)), some (.int w), none, none, none]) rfl ?_
  suffices HH : ∀ M, RO τ M0 M → AW mX12_hide rmX12_hide (fun r' M' => r' = (some (.int (hdN τ p w (min 8 (wd τ p * hg τ p))))) ∧ RO (hdT τ p w (min 8 (wd τ p * hg τ p))) M0 M') 0 [some (.ref 25), some (.int (nI p)), some (.int w), none, none, none] [] M 0 0 from HH M0 ⟨hW0, Off.rf M0⟩
  intro M hW
  have hn12 := hw.1.1
  have hwd := (hw.2 p hp).1
  have hhg := (hw.2 p hp).2
  have hip := ir_nI (n := nP τ) (by omega) hp
  have hm16 := wmul hwd.2.1 hhg.2.1
  refine aw_aload0 0 dX12_hide_0 ?_
  refine aw_iload1 1 dX12_hide_1 ?_
  refine rw_call1 2 dX12_hide_2 (c_X12_noPicture hw) ckV_RX12_146 cd_X12_noPicture rfl hW rfl (Nat.le_of_ble_eq_true rfl) ⟨⟨by decide, by decide⟩, by decide, by decide⟩ rfl (fun M hW => ?_)
  refine aw_ifeq_b 5 10 dX12_hide_5 (by decide) (fun h5 => ?_) (fun h5 => ?_)
  · refine aw_iload2 10 dX12_hide_10 ?_
    refine sd_call1 11 dX12_hide_11 (c_X12_isMark) ckS_RX12_267 cd_X12_isMark rfl (Nat.le_of_ble_eq_true rfl) ⟨⟨by decide, by decide⟩, by decide, by decide⟩ rfl ?_
    refine aw_ifne_b 14 20 dX12_hide_14 (by decide) (fun h14 => ?_) (fun h14 => ?_)
    · refine aw_ic0 20 dX12_hide_20 ?_
      refine aw_istore3 21 dX12_hide_21 rfl ?_
      refine aw_ic0 22 dX12_hide_22 ?_
      refine aw_istore4 23 dX12_hide_23 rfl ?_
      have LP25 : ∀ (dd : Nat) (k : Nat) (M : Mem) (z : Option Value), min 8 (wd τ p * hg τ p) - k = dd → k ≤ min 8 (wd τ p * hg τ p) → RO (hdT τ p w k) M0 M → AW mX12_hide rmX12_hide (fun r' M' => r' = (some (.int (hdN τ p w (min 8 (wd τ p * hg τ p))))) ∧ RO (hdT τ p w (min 8 (wd τ p * hg τ p))) M0 M') 25 [some (.ref 25), some (.int (nI p)), some (.int w), some (.int (hdN τ p w k)), some (.int (nI k)), z] [] M 0 0 := by
        intro dd
        induction dd using Nat.strongRecOn with
        | _ dd ih25 =>
          intro k M z hdd hk hW
          have hw1 : WP (hdT τ p w k) := hd_WP hw
          have hp1 : p < nP (hdT τ p w k) := by rw [hd_nP]; exact hp
          refine aw_iload4 25 dX12_hide_25 ?_
          refine aw_aload0 27 dX12_hide_27 ?_
          refine aw_iload1 28 dX12_hide_28 ?_
          refine rw_call1 29 dX12_hide_29 (show RD mX12_looked rmX12_looked [.int (nI p)] (hdT τ p w k) (some (.int (nI (min 8 (wd τ p * hg τ p))))) (hdT τ p w k) from by have := c_X12_looked hw1 hp1; rwa [hd_wd, hd_hg] at this) ckV_RX12_270 cd_X12_looked rfl hW rfl (Nat.le_of_ble_eq_true rfl) ⟨⟨by decide, by decide⟩, by decide, by decide⟩ rfl (fun M hW => ?_)
          refine aw_icmp_geN 32 99 (k) (min 8 (wd τ p * hg τ p)) dX12_hide_32 (by decide) rfl rfl (by omega) (by omega) (fun h32 => ?_) (fun h32 => ?_)
          · refine aw_iload3 99 dX12_hide_99 ?_
            refine aw_iret 100 dX12_hide_100 rfl (Nat.zero_le _) (Nat.zero_le _) ?_
            have he : k = min 8 (wd τ p * hg τ p) := by omega
            subst he
            exact ⟨rfl, hW⟩
          · refine aw_aload0 35 dX12_hide_35 ?_
            refine aw_iload1 36 dX12_hide_36 ?_
            refine aw_iload4 37 dX12_hide_37 ?_
            refine aw_iload2 39 dX12_hide_39 ?_
            refine rw_call1 40 dX12_hide_40 (c_X12_isSo hw1 hp1 (k := k) (by rw [hd_wd, hd_hg]; omega)) ckV_RX12_273 cd_X12_isSo rfl hW rfl (Nat.le_of_ble_eq_true rfl) ⟨⟨by decide, by decide⟩, by decide, by decide⟩ rfl (fun M hW => ?_)
            refine aw_ifne_b 43 93 dX12_hide_43 (by decide) (fun h43 => ?_) (fun h43 => ?_)
            · replace hW := ro_eq hW (show hdT τ p w k = hdT τ p w (k + 1) by show _ = (ite _ _ _ : TT); rw [if_pos h43])
              have hN : hdN τ p w k = hdN τ p w (k + 1) := by show _ = ite _ _ _; rw [if_pos h43]
              rw [hN]
              refine aw_iinc4 93 (nI (k + 1)) dX12_hide_93 (nI_1 _) rfl ?_
              refine aw_goto 96 25 dX12_hide_96 (by decide) ?_
              exact ih25 _ (by omega) (k + 1) M _ rfl (by omega) hW
            · have hpl := plc_lt ⟨hwd.1, hwd.2.1⟩ hhg.2.1 (show k < wd τ p * hg τ p by omega)
              refine aw_bipush 46 16 dX12_hide_46 (by decide) ?_
              refine aw_iload1 48 dX12_hide_48 ?_
              refine aw_imulN 49 (16) (p) dX12_hide_49 rfl rfl ?_
              refine aw_aload0 50 dX12_hide_50 ?_
              refine aw_iload1 51 dX12_hide_51 ?_
              refine aw_iload4 52 dX12_hide_52 ?_
              refine rw_call1 54 dX12_hide_54 (show RD mX12_placeOf rmX12_placeOf [.int (nI p), .int (nI k)] (hdT τ p w k) (some (.int (nI (plc τ p k)))) (hdT τ p w k) from by have := c_X12_placeOf hw1 hp1 (k := k) (by omega); rwa [hd_plc] at this) ckV_RX12_131 cd_X12_placeOf rfl hW rfl (Nat.le_of_ble_eq_true rfl) ⟨⟨by decide, by decide⟩, by decide, by decide⟩ rfl (fun M hW => ?_)
              refine aw_iaddN 57 (16 * p) (plc τ p k) dX12_hide_57 rfl rfl ?_
              refine aw_istore5 58 dX12_hide_58 rfl ?_
              refine aw_aload0 60 dX12_hide_60 ?_
              refine rw_ga 61 4 dX12_hide_61 ckF_RX12_16_12 (by decide) (by decide) hW ?_
              refine aw_iload5 64 dX12_hide_64 ?_
              refine aw_aload0 66 dX12_hide_66 ?_
              refine rw_ga 67 4 dX12_hide_67 ckF_RX12_16_12 (by decide) (by decide) hW ?_
              refine aw_iload5 70 dX12_hide_70 ?_
              refine rw_ld 72 4 ((16 * p) + (plc τ p k)) dX12_hide_72 hW rfl (show (16 * p) + (plc τ p k) < 192 by omega) ?_
              refine aw_if_ne 73 80 dX12_hide_73 (by decide) (fun h73 => ?_) (fun h73 => ?_)
              · refine aw_aload0 80 dX12_hide_80 ?_
                refine rw_ga 81 4 dX12_hide_81 ckF_RX12_16_12 (by decide) (by decide) hW ?_
                refine aw_iload5 84 dX12_hide_84 ?_
                refine rw_ld 86 4 ((16 * p) + (plc τ p k)) dX12_hide_86 hW rfl (show (16 * p) + (plc τ p k) < 192 by omega) ?_
                refine aw_ic1 87 dX12_hide_87 ?_
                refine aw_isub 88 dX12_hide_88 ?_
                refine rw_st 89 4 ((16 * p) + (plc τ p k)) dX12_hide_89 hW rfl (show (16 * p) + (plc τ p k) < 192 by omega) (fun M hW => ?_)
                replace hW := ro_eq hW (show tu (hdT τ p w k) 4 (16 * p + plc τ p k) _ = hdT τ p w (k + 1) by
                  show _ = (ite _ _ _ : TT)
                  rw [if_neg h43]
                  congr 1
                  unfold flp
                  first
                    | rw [if_pos h73]
                    | rw [if_neg h73])
                refine aw_iinc3 90 (hdN τ p w (k + 1)) dX12_hide_90 (by show _ = ite _ _ _; rw [if_neg h43]; rfl) rfl ?_
                refine aw_iinc4 93 (nI (k + 1)) dX12_hide_93 (nI_1 _) rfl ?_
                refine aw_goto 96 25 dX12_hide_96 (by decide) ?_
                exact ih25 _ (by omega) (k + 1) M _ rfl (by omega) hW
              · refine aw_ic1 76 dX12_hide_76 ?_
                refine aw_goto 77 89 dX12_hide_77 (by decide) ?_
                refine rw_st 89 4 ((16 * p) + (plc τ p k)) dX12_hide_89 hW rfl (show (16 * p) + (plc τ p k) < 192 by omega) (fun M hW => ?_)
                replace hW := ro_eq hW (show tu (hdT τ p w k) 4 (16 * p + plc τ p k) _ = hdT τ p w (k + 1) by
                  show _ = (ite _ _ _ : TT)
                  rw [if_neg h43]
                  congr 1
                  unfold flp
                  first
                    | rw [if_pos h73]
                    | rw [if_neg h73])
                refine aw_iinc3 90 (hdN τ p w (k + 1)) dX12_hide_90 (by show _ = ite _ _ _; rw [if_neg h43]; rfl) rfl ?_
                refine aw_iinc4 93 (nI (k + 1)) dX12_hide_93 (nI_1 _) rfl ?_
                refine aw_goto 96 25 dX12_hide_96 (by decide) ?_
                exact ih25 _ (by omega) (k + 1) M _ rfl (by omega) hW
      exact LP25 _ 0 M _ rfl (Nat.zero_le _) hW
    · exact absurd hm h14
  · exact absurd hip h5

