/-! the reference: proves, best, nearest, falsely (rows laid by gen/ref8.py) -/
def prG (τ : TT) (b : Nat) : Nat → Int32
  | 0 => 1
  | x + 1 => if ¬ prG τ b x = 0 ∧ irg (τ 30 (b + x)) 0 9972 then 1 else 0
def prU (τ : TT) (b : Nat) (pl u : Int32) : Nat → Int32
  | 0 => u
  | x + 1 => if prG τ b (x + 1) = 0 then 0 else if hbt pl x then abv (τ 30 (b + x)) (prU τ b pl u x) else abv (prU τ b pl u x) (τ 30 (b + x))
theorem prG_s {τ : TT} {b x : Nat} : prG τ b (x + 1) = if ¬ prG τ b x = 0 ∧ irg (τ 30 (b + x)) 0 9972 then 1 else 0 := rfl
theorem prU_s {τ : TT} {b x : Nat} {pl u : Int32} : prU τ b pl u (x + 1) = if prG τ b (x + 1) = 0 then 0 else if hbt pl x then abv (τ 30 (b + x)) (prU τ b pl u x) else abv (prU τ b pl u x) (τ 30 (b + x)) := rfl

def rmX12_proves : Room := { frames := 2, cells := 0, slots := 0, locals := 48 }
set_option maxHeartbeats 4000000 in
set_option maxRecDepth 100000 in
theorem n_X12_proves {τ : TT} {j u r v l i : Int32} (hno : ¬ irg v 0 3 ∨ ¬ irg j 0 15) : RD mX12_proves rmX12_proves [.int j, .int u, .int r, .int v, .int l, .int i] τ (some (.int (-1))) (tu τ 0 0 0) := by
  intro M0 hW0
  refine am_of rfl rfl (ls := [some (.ref 25), some (.int j), some (.int u), some (.int r), some (.int v), some (.int l), some (.int i), none, none, none, none, none]) rfl ?_
  suffices HH : ∀ M, RO τ M0 M → AW mX12_proves rmX12_proves (fun r' M' => r' = (some (.int (-1))) ∧ RO (tu τ 0 0 0) M0 M') 0 [some (.ref 25), some (.int j), some (.int u), some (.int r), some (.int v), some (.int l), some (.int i), none, none, none, none, none] [] M 0 0 from HH M0 ⟨hW0, Off.rf M0⟩
  intro M hW
  refine aw_iload4 0 dX12_proves_0 ?_
  refine sd_call1 2 dX12_proves_2 (c_X12_noSheet) ckS_RX12_110 cd_X12_noSheet rfl (Nat.le_of_ble_eq_true rfl) ⟨⟨by decide, by decide⟩, by decide, by decide⟩ rfl ?_
  refine aw_ifne_b 5 20 dX12_proves_5 (by decide) (fun h5 => ?_) (fun h5 => ?_)
  · refine aw_aload0 20 dX12_proves_20 ?_
    refine aw_icm1 21 dX12_proves_21 ?_
    refine rw_call1 22 dX12_proves_22 c_X12_refused ckV_RX12_114 cd_X12_refused rfl hW rfl (Nat.le_of_ble_eq_true rfl) ⟨⟨by decide, by decide⟩, by decide, by decide⟩ rfl (fun M hW => ?_)
    refine aw_iret 25 dX12_proves_25 rfl (Nat.zero_le _) (Nat.zero_le _) ?_
    exact ⟨rfl, hW⟩
  · refine aw_iload1 8 dX12_proves_8 ?_
    refine aw_i2l 9 dX12_proves_9 ?_
    refine aw_lc0 10 dX12_proves_10 ?_
    refine aw_ldc2 11 (15) dX12_proves_11 ckL_RX12_108 ?_
    refine sd_call1 14 dX12_proves_14 (c_in2 (0) (15) (by decide) (by decide)) ckS_RX12_99 cd_X12_in rfl (Nat.le_of_ble_eq_true rfl) ⟨⟨by decide, by decide⟩, by decide, by decide⟩ rfl ?_
    refine aw_ifne_b 17 26 dX12_proves_17 (by decide) (fun h17 => ?_) (fun h17 => ?_)
    · exact absurd hno (fun q => q.elim h5 (fun z => z h17))
    · refine aw_aload0 20 dX12_proves_20 ?_
      refine aw_icm1 21 dX12_proves_21 ?_
      refine rw_call1 22 dX12_proves_22 c_X12_refused ckV_RX12_114 cd_X12_refused rfl hW rfl (Nat.le_of_ble_eq_true rfl) ⟨⟨by decide, by decide⟩, by decide, by decide⟩ rfl (fun M hW => ?_)
      refine aw_iret 25 dX12_proves_25 rfl (Nat.zero_le _) (Nat.zero_le _) ?_
      exact ⟨rfl, hW⟩

set_option maxHeartbeats 4000000 in
set_option maxRecDepth 100000 in
theorem n2_X12_proves {τ : TT} {k : Nat} {j u r l i : Int32} (hk : k < 4) (hj : irg j 0 15) (hno : ¬ irg u (-1) 99 ∨ ¬ irg l 0 2) : RD mX12_proves rmX12_proves [.int j, .int u, .int r, .int (nI k), .int l, .int i] τ (some (.int (-2))) (tu τ 0 0 0) := by
  intro M0 hW0
  refine am_of rfl rfl (ls := [some (.ref 25), some (.int j), some (.int u), some (.int r), some (.int (nI k)), some (.int l), some (.int i), none, none, none, none, none]) rfl ?_
  suffices HH : ∀ M, RO τ M0 M → AW mX12_proves rmX12_proves (fun r' M' => r' = (some (.int (-2))) ∧ RO (tu τ 0 0 0) M0 M') 0 [some (.ref 25), some (.int j), some (.int u), some (.int r), some (.int (nI k)), some (.int l), some (.int i), none, none, none, none, none] [] M 0 0 from HH M0 ⟨hW0, Off.rf M0⟩
  intro M hW
  have hik : irg (nI k) 0 3 := irg_nI (b := 3) (by decide) (by omega)
  refine aw_iload4 0 dX12_proves_0 ?_
  refine sd_call1 2 dX12_proves_2 (c_X12_noSheet) ckS_RX12_110 cd_X12_noSheet rfl (Nat.le_of_ble_eq_true rfl) ⟨⟨by decide, by decide⟩, by decide, by decide⟩ rfl ?_
  refine aw_ifne_b 5 20 dX12_proves_5 (by decide) (fun h5 => ?_) (fun h5 => ?_)
  · first | exact absurd hik h5 | exact absurd hj h17
  · refine aw_iload1 8 dX12_proves_8 ?_
    refine aw_i2l 9 dX12_proves_9 ?_
    refine aw_lc0 10 dX12_proves_10 ?_
    refine aw_ldc2 11 (15) dX12_proves_11 ckL_RX12_108 ?_
    refine sd_call1 14 dX12_proves_14 (c_in2 (0) (15) (by decide) (by decide)) ckS_RX12_99 cd_X12_in rfl (Nat.le_of_ble_eq_true rfl) ⟨⟨by decide, by decide⟩, by decide, by decide⟩ rfl ?_
    refine aw_ifne_b 17 26 dX12_proves_17 (by decide) (fun h17 => ?_) (fun h17 => ?_)
    · refine aw_iload2 26 dX12_proves_26 ?_
      refine aw_i2l 27 dX12_proves_27 ?_
      refine aw_ldc2 28 (-1) dX12_proves_28 ckL_RX12_250 ?_
      refine aw_ldc2 31 (99) dX12_proves_31 ckL_RX12_126 ?_
      refine sd_call1 34 dX12_proves_34 (c_in2 (-1) (99) (by decide) (by decide)) ckS_RX12_99 cd_X12_in rfl (Nat.le_of_ble_eq_true rfl) ⟨⟨by decide, by decide⟩, by decide, by decide⟩ rfl ?_
      refine aw_ifeq_b 37 48 dX12_proves_37 (by decide) (fun h37 => ?_) (fun h37 => ?_)
      · refine aw_aload0 48 dX12_proves_48 ?_
        refine aw_bipush 49 (-2) dX12_proves_49 (by decide) ?_
        refine rw_call1 51 dX12_proves_51 c_X12_refused ckV_RX12_114 cd_X12_refused rfl hW rfl (Nat.le_of_ble_eq_true rfl) ⟨⟨by decide, by decide⟩, by decide, by decide⟩ rfl (fun M hW => ?_)
        refine aw_iret 54 dX12_proves_54 rfl (Nat.zero_le _) (Nat.zero_le _) ?_
        exact ⟨rfl, hW⟩
      · refine aw_iload5 40 dX12_proves_40 ?_
        refine sd_call1 42 dX12_proves_42 (c_X12_isLane) ckS_RX12_119 cd_X12_isLane rfl (Nat.le_of_ble_eq_true rfl) ⟨⟨by decide, by decide⟩, by decide, by decide⟩ rfl ?_
        refine aw_ifne_b 45 55 dX12_proves_45 (by decide) (fun h45 => ?_) (fun h45 => ?_)
        · exact absurd hno (fun q => q.elim (fun z => z h37) (fun z => z h45))
        · refine aw_aload0 48 dX12_proves_48 ?_
          refine aw_bipush 49 (-2) dX12_proves_49 (by decide) ?_
          refine rw_call1 51 dX12_proves_51 c_X12_refused ckV_RX12_114 cd_X12_refused rfl hW rfl (Nat.le_of_ble_eq_true rfl) ⟨⟨by decide, by decide⟩, by decide, by decide⟩ rfl (fun M hW => ?_)
          refine aw_iret 54 dX12_proves_54 rfl (Nat.zero_le _) (Nat.zero_le _) ?_
          exact ⟨rfl, hW⟩
    · first | exact absurd hik h5 | exact absurd hj h17

set_option maxHeartbeats 4000000 in
set_option maxRecDepth 100000 in
theorem n3_X12_proves {τ : TT} {k : Nat} {j u r l i : Int32} (hk : k < 4) (hj : irg j 0 15) (hu : irg u (-1) 99) (hl : irg l 0 2) (hb : ¬ bar τ k l i 4 = 0) : RD mX12_proves rmX12_proves [.int j, .int u, .int r, .int (nI k), .int l, .int i] τ (some (.int (-10 - bar τ k l i 4))) (tu τ 0 0 (bar τ k l i 4)) := by
  intro M0 hW0
  refine am_of rfl rfl (ls := [some (.ref 25), some (.int j), some (.int u), some (.int r), some (.int (nI k)), some (.int l), some (.int i), none, none, none, none, none]) rfl ?_
  suffices HH : ∀ M, RO τ M0 M → AW mX12_proves rmX12_proves (fun r' M' => r' = (some (.int (-10 - bar τ k l i 4))) ∧ RO (tu τ 0 0 (bar τ k l i 4)) M0 M') 0 [some (.ref 25), some (.int j), some (.int u), some (.int r), some (.int (nI k)), some (.int l), some (.int i), none, none, none, none, none] [] M 0 0 from HH M0 ⟨hW0, Off.rf M0⟩
  intro M hW
  have hik : irg (nI k) 0 3 := irg_nI (b := 3) (by decide) (by omega)
  refine aw_iload4 0 dX12_proves_0 ?_
  refine sd_call1 2 dX12_proves_2 (c_X12_noSheet) ckS_RX12_110 cd_X12_noSheet rfl (Nat.le_of_ble_eq_true rfl) ⟨⟨by decide, by decide⟩, by decide, by decide⟩ rfl ?_
  refine aw_ifne_b 5 20 dX12_proves_5 (by decide) (fun h5 => ?_) (fun h5 => ?_)
  · first | exact absurd hik h5 | exact absurd hj h17
  · refine aw_iload1 8 dX12_proves_8 ?_
    refine aw_i2l 9 dX12_proves_9 ?_
    refine aw_lc0 10 dX12_proves_10 ?_
    refine aw_ldc2 11 (15) dX12_proves_11 ckL_RX12_108 ?_
    refine sd_call1 14 dX12_proves_14 (c_in2 (0) (15) (by decide) (by decide)) ckS_RX12_99 cd_X12_in rfl (Nat.le_of_ble_eq_true rfl) ⟨⟨by decide, by decide⟩, by decide, by decide⟩ rfl ?_
    refine aw_ifne_b 17 26 dX12_proves_17 (by decide) (fun h17 => ?_) (fun h17 => ?_)
    · refine aw_iload2 26 dX12_proves_26 ?_
      refine aw_i2l 27 dX12_proves_27 ?_
      refine aw_ldc2 28 (-1) dX12_proves_28 ckL_RX12_250 ?_
      refine aw_ldc2 31 (99) dX12_proves_31 ckL_RX12_126 ?_
      refine sd_call1 34 dX12_proves_34 (c_in2 (-1) (99) (by decide) (by decide)) ckS_RX12_99 cd_X12_in rfl (Nat.le_of_ble_eq_true rfl) ⟨⟨by decide, by decide⟩, by decide, by decide⟩ rfl ?_
      refine aw_ifeq_b 37 48 dX12_proves_37 (by decide) (fun h37 => ?_) (fun h37 => ?_)
      · first | exact absurd hu h37 | exact absurd hl h45
      · refine aw_iload5 40 dX12_proves_40 ?_
        refine sd_call1 42 dX12_proves_42 (c_X12_isLane) ckS_RX12_119 cd_X12_isLane rfl (Nat.le_of_ble_eq_true rfl) ⟨⟨by decide, by decide⟩, by decide, by decide⟩ rfl ?_
        refine aw_ifne_b 45 55 dX12_proves_45 (by decide) (fun h45 => ?_) (fun h45 => ?_)
        · refine aw_aload0 55 dX12_proves_55 ?_
          refine aw_iload4 56 dX12_proves_56 ?_
          refine aw_iload5 58 dX12_proves_58 ?_
          refine aw_iload6 60 dX12_proves_60 ?_
          refine aw_ldc2 62 (4) dX12_proves_62 ckL_RX12_117 ?_
          refine rw_call1 65 dX12_proves_65 (c_barN hk hb) ckV_RX12_122 cd_X12_barred rfl hW rfl (Nat.le_of_ble_eq_true rfl) ⟨⟨by decide, by decide⟩, by decide, by decide⟩ rfl (fun M hW => ?_)
          refine aw_istore7 68 dX12_proves_68 rfl ?_
          refine aw_iload7 70 dX12_proves_70 ?_
          refine aw_if_ge 72 78 dX12_proves_72 (by decide) (fun h72 => ?_) (fun h72 => ?_)
          · exact absurd h72 (bar_neg hb)
          · refine aw_iload7 75 dX12_proves_75 ?_
            refine aw_iret 77 dX12_proves_77 rfl (Nat.zero_le _) (Nat.zero_le _) ?_
            exact ⟨rfl, hW⟩
        · first | exact absurd hu h37 | exact absurd hl h45
    · first | exact absurd hik h5 | exact absurd hj h17

set_option maxHeartbeats 4000000 in
set_option maxRecDepth 100000 in
theorem c_X12_proves {τ : TT} {k i : Nat} {j u r l : Int32} (hk : k < 4) (hj : irg j 0 15) (hu : irg u (-1) 99) (hl : irg l 0 2) (hs : WS τ) (h0 : ¬ τ 28 k < 0) (hll : τ 29 k = l) (hi : i + 4 ≤ ssz τ k) : RD mX12_proves rmX12_proves [.int j, .int u, .int r, .int (nI k), .int l, .int (nI i)] τ (some (.int (if ¬ prG τ (60 * k + i) 4 = 0 ∧ prU τ (60 * k + i) j (u + 1) 4 = r then 1 else 0))) (tu τ 0 0 0) := by
  intro M0 hW0
  refine am_of rfl rfl (ls := [some (.ref 25), some (.int j), some (.int u), some (.int r), some (.int (nI k)), some (.int l), some (.int (nI i)), none, none, none, none, none]) rfl ?_
  suffices HH : ∀ M, RO τ M0 M → AW mX12_proves rmX12_proves (fun r' M' => r' = (some (.int (if ¬ prG τ (60 * k + i) 4 = 0 ∧ prU τ (60 * k + i) j (u + 1) 4 = r then 1 else 0))) ∧ RO (tu τ 0 0 0) M0 M') 0 [some (.ref 25), some (.int j), some (.int u), some (.int r), some (.int (nI k)), some (.int l), some (.int (nI i)), none, none, none, none, none] [] M 0 0 from HH M0 ⟨hW0, Off.rf M0⟩
  intro M hW
  have hik : irg (nI k) 0 3 := irg_nI (b := 3) (by decide) (by omega)
  have hsk := hs.ok hk h0
  have hb : bar τ k l (nI i) 4 = 0 := bar_0 (n := 4) hs hk h0 hll hi
  refine aw_iload4 0 dX12_proves_0 ?_
  refine sd_call1 2 dX12_proves_2 (c_X12_noSheet) ckS_RX12_110 cd_X12_noSheet rfl (Nat.le_of_ble_eq_true rfl) ⟨⟨by decide, by decide⟩, by decide, by decide⟩ rfl ?_
  refine aw_ifne_b 5 20 dX12_proves_5 (by decide) (fun h5 => ?_) (fun h5 => ?_)
  · first | exact absurd hik h5 | exact absurd hj h17
  · refine aw_iload1 8 dX12_proves_8 ?_
    refine aw_i2l 9 dX12_proves_9 ?_
    refine aw_lc0 10 dX12_proves_10 ?_
    refine aw_ldc2 11 (15) dX12_proves_11 ckL_RX12_108 ?_
    refine sd_call1 14 dX12_proves_14 (c_in2 (0) (15) (by decide) (by decide)) ckS_RX12_99 cd_X12_in rfl (Nat.le_of_ble_eq_true rfl) ⟨⟨by decide, by decide⟩, by decide, by decide⟩ rfl ?_
    refine aw_ifne_b 17 26 dX12_proves_17 (by decide) (fun h17 => ?_) (fun h17 => ?_)
    · refine aw_iload2 26 dX12_proves_26 ?_
      refine aw_i2l 27 dX12_proves_27 ?_
      refine aw_ldc2 28 (-1) dX12_proves_28 ckL_RX12_250 ?_
      refine aw_ldc2 31 (99) dX12_proves_31 ckL_RX12_126 ?_
      refine sd_call1 34 dX12_proves_34 (c_in2 (-1) (99) (by decide) (by decide)) ckS_RX12_99 cd_X12_in rfl (Nat.le_of_ble_eq_true rfl) ⟨⟨by decide, by decide⟩, by decide, by decide⟩ rfl ?_
      refine aw_ifeq_b 37 48 dX12_proves_37 (by decide) (fun h37 => ?_) (fun h37 => ?_)
      · first | exact absurd hu h37 | exact absurd hl h45
      · refine aw_iload5 40 dX12_proves_40 ?_
        refine sd_call1 42 dX12_proves_42 (c_X12_isLane) ckS_RX12_119 cd_X12_isLane rfl (Nat.le_of_ble_eq_true rfl) ⟨⟨by decide, by decide⟩, by decide, by decide⟩ rfl ?_
        refine aw_ifne_b 45 55 dX12_proves_45 (by decide) (fun h45 => ?_) (fun h45 => ?_)
        · refine aw_aload0 55 dX12_proves_55 ?_
          refine aw_iload4 56 dX12_proves_56 ?_
          refine aw_iload5 58 dX12_proves_58 ?_
          refine aw_iload6 60 dX12_proves_60 ?_
          refine aw_ldc2 62 (4) dX12_proves_62 ckL_RX12_117 ?_
          refine rw_call1 65 dX12_proves_65 (c_bar0 hk hb) ckV_RX12_122 cd_X12_barred rfl hW rfl (Nat.le_of_ble_eq_true rfl) ⟨⟨by decide, by decide⟩, by decide, by decide⟩ rfl (fun M hW => ?_)
          refine aw_istore7 68 dX12_proves_68 rfl ?_
          refine aw_iload7 70 dX12_proves_70 ?_
          refine aw_if_geN 72 78 (0) dX12_proves_72 (by decide) rfl (by omega) ?_
          refine aw_iload2 78 dX12_proves_78 ?_
          refine aw_ic1 79 dX12_proves_79 ?_
          refine aw_iadd 80 dX12_proves_80 ?_
          refine aw_istore8 81 dX12_proves_81 rfl ?_
          refine aw_ic1 83 dX12_proves_83 ?_
          refine aw_istore9 84 dX12_proves_84 rfl ?_
          refine aw_ic0 86 dX12_proves_86 ?_
          refine aw_istore10 87 dX12_proves_87 rfl ?_
          have LP89 : ∀ (dd : Nat) (x : Nat) (g q : Int32) (M : Mem) (z : Option Value), 4 - x = dd → (x ≤ 4) → (g = prG τ (60 * k + i) x) → (q = prU τ (60 * k + i) j (u + 1) x) → (RO τ M0 M) → AW mX12_proves rmX12_proves (fun r' M' => r' = (some (.int (if ¬ prG τ (60 * k + i) 4 = 0 ∧ prU τ (60 * k + i) j (u + 1) 4 = r then 1 else 0))) ∧ RO (tu τ 0 0 0) M0 M') 89 [some (.ref 25), some (.int j), some (.int u), some (.int r), some (.int (nI k)), some (.int l), some (.int (nI i)), some (.int 0), some (.int q), some (.int g), some (.int (nI x)), z] [] M 0 0 := by
            intro dd
            induction dd using Nat.strongRecOn with
            | _ dd ih89 =>
              intro x g q M z hdd hx hg hq hW
              refine aw_iload10 89 dX12_proves_89 ?_
              refine aw_ic4 91 dX12_proves_91 ?_
              refine aw_icmp_geN 92 181 (x) (4) dX12_proves_92 (by decide) rfl rfl (by omega) (by omega) (fun h92 => ?_) (fun h92 => ?_)
              · have he : x = 4 := by omega
                subst he
                subst hg hq
                refine aw_aload0 181 dX12_proves_181 ?_
                refine aw_iload9 182 dX12_proves_182 ?_
                refine aw_if_eq 184 197 dX12_proves_184 (by decide) (fun h184 => ?_) (fun h184 => ?_)
                · refine aw_ic0 197 dX12_proves_197 ?_
                  refine rw_call1 198 dX12_proves_198 c_X12_refused ckV_RX12_114 cd_X12_refused rfl hW rfl (Nat.le_of_ble_eq_true rfl) ⟨⟨by decide, by decide⟩, by decide, by decide⟩ rfl (fun M hW => ?_)
                  refine aw_iret 201 dX12_proves_201 rfl (Nat.zero_le _) (Nat.zero_le _) ?_
                  refine ⟨?_, hW⟩
                  first
                    | (rw [if_neg (nl (nn h184))]; done)
                    | (rw [if_pos (And.intro h184 h190)]; done)
                    | (rw [if_neg (nr h190)]; done)
                · refine aw_iload8 187 dX12_proves_187 ?_
                  refine aw_iload3 189 dX12_proves_189 ?_
                  refine aw_icmp_ne 190 197 dX12_proves_190 (by decide) (fun h190 => ?_) (fun h190 => ?_)
                  · refine aw_ic0 197 dX12_proves_197 ?_
                    refine rw_call1 198 dX12_proves_198 c_X12_refused ckV_RX12_114 cd_X12_refused rfl hW rfl (Nat.le_of_ble_eq_true rfl) ⟨⟨by decide, by decide⟩, by decide, by decide⟩ rfl (fun M hW => ?_)
                    refine aw_iret 201 dX12_proves_201 rfl (Nat.zero_le _) (Nat.zero_le _) ?_
                    refine ⟨?_, hW⟩
                    first
                      | (rw [if_neg (nl (nn h184))]; done)
                      | (rw [if_pos (And.intro h184 h190)]; done)
                      | (rw [if_neg (nr h190)]; done)
                  · refine aw_ic1 193 dX12_proves_193 ?_
                    refine aw_goto 194 198 dX12_proves_194 (by decide) ?_
                    refine rw_call1 198 dX12_proves_198 c_X12_refused ckV_RX12_114 cd_X12_refused rfl hW rfl (Nat.le_of_ble_eq_true rfl) ⟨⟨by decide, by decide⟩, by decide, by decide⟩ rfl (fun M hW => ?_)
                    refine aw_iret 201 dX12_proves_201 rfl (Nat.zero_le _) (Nat.zero_le _) ?_
                    refine ⟨?_, hW⟩
                    first
                      | (rw [if_neg (nl (nn h184))]; done)
                      | (rw [if_pos (And.intro h184 h190)]; done)
                      | (rw [if_neg (nr h190)]; done)
              · refine aw_aload0 95 dX12_proves_95 ?_
                refine rw_ga 96 30 dX12_proves_96 ckF_RX12_73_12 (by decide) (by decide) hW ?_
                refine aw_bipush 99 60 dX12_proves_99 (by decide) ?_
                refine aw_iload4 101 dX12_proves_101 ?_
                refine aw_imulN 103 (60) (k) dX12_proves_103 rfl rfl ?_
                refine aw_iload6 104 dX12_proves_104 ?_
                refine aw_iaddN 106 (60 * k) (i) dX12_proves_106 rfl rfl ?_
                refine aw_iload10 107 dX12_proves_107 ?_
                refine aw_iaddN 109 ((60 * k) + i) (x) dX12_proves_109 rfl rfl ?_
                refine rw_ld 110 30 (((60 * k) + i) + x) dX12_proves_110 hW rfl (show ((60 * k) + i) + x < 240 by omega) ?_
                refine aw_istore11 111 dX12_proves_111 rfl ?_
                refine aw_iload9 113 dX12_proves_113 ?_
                refine aw_if_eq 115 135 dX12_proves_115 (by decide) (fun h115 => ?_) (fun h115 => ?_)
                · have hg1 : prG τ (60 * k + i) (x + 1) = 0 := by
                    rw [prG_s, ← hg]
                    first
                      | rw [if_neg (nl (nn h115))]
                      | rw [if_neg (nr h128)]
                  refine aw_ic0 135 dX12_proves_135 ?_
                  refine aw_istore9 136 dX12_proves_136 rfl ?_
                  refine aw_iload9 138 dX12_proves_138 ?_
                  refine aw_if_neN 140 147 (0) dX12_proves_140 (by decide) rfl (by decide) (fun h => absurd h (by decide)) (fun _ => ?_)
                  have hq1 : prU τ (60 * k + i) j (u + 1) (x + 1) = 0 := by rw [prU_s, if_pos hg1]
                  refine aw_ic0 143 dX12_proves_143 ?_
                  refine aw_goto 144 173 dX12_proves_144 (by decide) ?_
                  refine aw_istore8 173 dX12_proves_173 rfl ?_
                  refine aw_iinc10 175 (nI (x + 1)) dX12_proves_175 (nI_1 _) rfl ?_
                  refine aw_goto 178 89 dX12_proves_178 (by decide) ?_
                  exact ih89 _ (by omega) (x + 1) _ _ M _ rfl (by omega) hg1.symm hq1.symm hW
                · refine aw_iload11 118 dX12_proves_118 ?_
                  refine aw_i2l 120 dX12_proves_120 ?_
                  refine aw_lc0 121 dX12_proves_121 ?_
                  refine aw_ldc2 122 (9972) dX12_proves_122 ckL_RX12_214 ?_
                  refine sd_call1 125 dX12_proves_125 (c_in2 (0) (9972) (by decide) (by decide)) ckS_RX12_99 cd_X12_in rfl (Nat.le_of_ble_eq_true rfl) ⟨⟨by decide, by decide⟩, by decide, by decide⟩ rfl ?_
                  refine aw_ifeq_b 128 135 dX12_proves_128 (by decide) (fun h128 => ?_) (fun h128 => ?_)
                  · have hg1 : prG τ (60 * k + i) (x + 1) = 0 := by
                      rw [prG_s, ← hg]
                      first
                        | rw [if_neg (nl (nn h115))]
                        | rw [if_neg (nr h128)]
                    refine aw_ic0 135 dX12_proves_135 ?_
                    refine aw_istore9 136 dX12_proves_136 rfl ?_
                    refine aw_iload9 138 dX12_proves_138 ?_
                    refine aw_if_neN 140 147 (0) dX12_proves_140 (by decide) rfl (by decide) (fun h => absurd h (by decide)) (fun _ => ?_)
                    have hq1 : prU τ (60 * k + i) j (u + 1) (x + 1) = 0 := by rw [prU_s, if_pos hg1]
                    refine aw_ic0 143 dX12_proves_143 ?_
                    refine aw_goto 144 173 dX12_proves_144 (by decide) ?_
                    refine aw_istore8 173 dX12_proves_173 rfl ?_
                    refine aw_iinc10 175 (nI (x + 1)) dX12_proves_175 (nI_1 _) rfl ?_
                    refine aw_goto 178 89 dX12_proves_178 (by decide) ?_
                    exact ih89 _ (by omega) (x + 1) _ _ M _ rfl (by omega) hg1.symm hq1.symm hW
                  · have hg1 : prG τ (60 * k + i) (x + 1) = 1 := by
                      rw [prG_s, ← hg, if_pos (And.intro h115 h128)]
                    refine aw_ic1 131 dX12_proves_131 ?_
                    refine aw_goto 132 136 dX12_proves_132 (by decide) ?_
                    refine aw_istore9 136 dX12_proves_136 rfl ?_
                    refine aw_iload9 138 dX12_proves_138 ?_
                    refine aw_if_neN 140 147 (1) dX12_proves_140 (by decide) rfl (by decide) (fun _ => ?_) (fun h => absurd h (by decide))
                    refine aw_iload1 147 dX12_proves_147 ?_
                    refine aw_iload10 148 dX12_proves_148 ?_
                    refine sd_call1 150 dX12_proves_150 (c_X12_hasBit (s := j) (k := nI x)) ckS_RX12_262 cd_X12_hasBit rfl (Nat.le_of_ble_eq_true rfl) ⟨⟨by decide, by decide⟩, by decide, by decide⟩ rfl ?_
                    refine aw_ifeq_b 153 166 dX12_proves_153 (by decide) (fun h153 => ?_) (fun h153 => ?_)
                    · have hq1 : prU τ (60 * k + i) j (u + 1) (x + 1) = abv q (τ 30 (60 * k + i + x)) := by rw [prU_s, if_neg (by rw [hg1]; decide), if_neg h153, hq]
                      refine aw_iload8 166 dX12_proves_166 ?_
                      refine aw_iload11 168 dX12_proves_168 ?_
                      refine sd_call1 170 dX12_proves_170 c_X12_above ckS_RX12_139 cd_X12_above rfl (Nat.le_of_ble_eq_true rfl) ⟨⟨by decide, by decide⟩, by decide, by decide⟩ rfl ?_
                      refine aw_istore8 173 dX12_proves_173 rfl ?_
                      refine aw_iinc10 175 (nI (x + 1)) dX12_proves_175 (nI_1 _) rfl ?_
                      refine aw_goto 178 89 dX12_proves_178 (by decide) ?_
                      exact ih89 _ (by omega) (x + 1) _ _ M _ rfl (by omega) hg1.symm hq1.symm hW
                    · have hq1 : prU τ (60 * k + i) j (u + 1) (x + 1) = abv (τ 30 (60 * k + i + x)) q := by rw [prU_s, if_neg (by rw [hg1]; decide), if_pos h153, hq]
                      refine aw_iload11 156 dX12_proves_156 ?_
                      refine aw_iload8 158 dX12_proves_158 ?_
                      refine sd_call1 160 dX12_proves_160 c_X12_above ckS_RX12_139 cd_X12_above rfl (Nat.le_of_ble_eq_true rfl) ⟨⟨by decide, by decide⟩, by decide, by decide⟩ rfl ?_
                      refine aw_goto 163 173 dX12_proves_163 (by decide) ?_
                      refine aw_istore8 173 dX12_proves_173 rfl ?_
                      refine aw_iinc10 175 (nI (x + 1)) dX12_proves_175 (nI_1 _) rfl ?_
                      refine aw_goto 178 89 dX12_proves_178 (by decide) ?_
                      exact ih89 _ (by omega) (x + 1) _ _ M _ rfl (by omega) hg1.symm hq1.symm hW
          exact LP89 _ 0 1 (u + 1) M _ rfl (by omega) rfl rfl hW
        · first | exact absurd hu h37 | exact absurd hl h45
    · first | exact absurd hik h5 | exact absurd hj h17

def olks (τ : TT) (s : Nat) (w : Int32) : Int32 := olk τ (nI s) w (nK τ)
abbrev betr (τ : TT) (s b : Nat) : Prop := 0 < olks τ s 1 - olks τ b 1 ∨ (olks τ s 1 - olks τ b 1 = 0 ∧ olks τ s 2 < olks τ b 2)
def bst (τ : TT) (hours : Int32) : Nat → Nat
  | 0 => 0
  | n + 1 => if olks τ (n + 1) 2 ≤ hours ∧ betr τ (n + 1) (bst τ hours n) then n + 1 else bst τ hours n
theorem bst_s {τ : TT} {hours : Int32} {n : Nat} : bst τ hours (n + 1) = if olks τ (n + 1) 2 ≤ hours ∧ betr τ (n + 1) (bst τ hours n) then n + 1 else bst τ hours n := rfl
theorem bst_le (τ : TT) (hours : Int32) (n : Nat) : bst τ hours n ≤ n := by
  induction n with
  | zero => exact Nat.le_refl _
  | succ n ih =>
    rw [bst_s]
    by_cases h : olks τ (n + 1) 2 ≤ hours ∧ betr τ (n + 1) (bst τ hours n)
    · rw [if_pos h]; exact Nat.le_refl _
    · rw [if_neg h]; omega
theorem shl1 : ∀ k, k < 13 → (1 : Int32) <<< (nI k &&& 31) = nI (2 ^ k) := by decide
theorem pw9 {k : Nat} (h : k ≤ 9) : 1 ≤ 2 ^ k ∧ 2 ^ k ≤ 512 := ⟨Nat.one_le_two_pow, by have := Nat.pow_le_pow_right (n := 2) (by omega) h; omega⟩
def sBe (τ : TT) (h w : Int32) : Int32 := if w = 0 then nI (bst τ h (2 ^ nK τ - 1)) else olks τ (bst τ h (2 ^ nK τ - 1)) w

def rmX12_best : Room := { frames := 2, cells := 0, slots := 0, locals := 45 }
set_option maxHeartbeats 4000000 in
set_option maxRecDepth 100000 in
theorem n_X12_best {τ : TT} {h w : Int32} (hno : ¬ irg h 0 99 ∨ ¬ irg w 0 2) : RD mX12_best rmX12_best [.int h, .int w] τ (some (.int (-2))) (τ) := by
  intro M0 hW0
  refine am_of rfl rfl (ls := [some (.ref 25), some (.int h), some (.int w), none, none, none, none]) rfl ?_
  suffices HH : ∀ M, RO τ M0 M → AW mX12_best rmX12_best (fun r' M' => r' = (some (.int (-2))) ∧ RO (τ) M0 M') 0 [some (.ref 25), some (.int h), some (.int w), none, none, none, none] [] M 0 0 from HH M0 ⟨hW0, Off.rf M0⟩
  intro M hW
  refine aw_iload1 0 dX12_best_0 ?_
  refine aw_i2l 1 dX12_best_1 ?_
  refine aw_lc0 2 dX12_best_2 ?_
  refine aw_ldc2 3 (99) dX12_best_3 ckL_RX12_126 ?_
  refine sd_call1 6 dX12_best_6 (c_in2 (0) (99) (by decide) (by decide)) ckS_RX12_99 cd_X12_in rfl (Nat.le_of_ble_eq_true rfl) ⟨⟨by decide, by decide⟩, by decide, by decide⟩ rfl ?_
  refine aw_ifeq_b 9 24 dX12_best_9 (by decide) (fun h9 => ?_) (fun h9 => ?_)
  · refine aw_bipush 24 (-2) dX12_best_24 (by decide) ?_
    refine aw_iret 26 dX12_best_26 rfl (Nat.zero_le _) (Nat.zero_le _) ?_
    exact ⟨rfl, hW⟩
  · refine aw_iload2 12 dX12_best_12 ?_
    refine aw_i2l 13 dX12_best_13 ?_
    refine aw_lc0 14 dX12_best_14 ?_
    refine aw_ldc2 15 (2) dX12_best_15 ckL_RX12_97 ?_
    refine sd_call1 18 dX12_best_18 (c_in2 (0) (2) (by decide) (by decide)) ckS_RX12_99 cd_X12_in rfl (Nat.le_of_ble_eq_true rfl) ⟨⟨by decide, by decide⟩, by decide, by decide⟩ rfl ?_
    refine aw_ifne_b 21 27 dX12_best_21 (by decide) (fun h21 => ?_) (fun h21 => ?_)
    · exact absurd hno (fun q => q.elim (fun z => z h9) (fun z => z h21))
    · refine aw_bipush 24 (-2) dX12_best_24 (by decide) ?_
      refine aw_iret 26 dX12_best_26 rfl (Nat.zero_le _) (Nat.zero_le _) ?_
      exact ⟨rfl, hW⟩

set_option maxHeartbeats 4000000 in
set_option maxRecDepth 100000 in
theorem c_X12_best {τ : TT} {h w : Int32} (hk : nK τ ≤ 9 ∧ τ 24 0 = nI (nK τ)) (h1 : irg h 0 99) (h2 : irg w 0 2) : RD mX12_best rmX12_best [.int h, .int w] τ (some (.int (sBe τ h w))) (τ) := by
  intro M0 hW0
  refine am_of rfl rfl (ls := [some (.ref 25), some (.int h), some (.int w), none, none, none, none]) rfl ?_
  suffices HH : ∀ M, RO τ M0 M → AW mX12_best rmX12_best (fun r' M' => r' = (some (.int (sBe τ h w))) ∧ RO (τ) M0 M') 0 [some (.ref 25), some (.int h), some (.int w), none, none, none, none] [] M 0 0 from HH M0 ⟨hW0, Off.rf M0⟩
  intro M hW
  have hpw := pw9 hk.1
  refine aw_iload1 0 dX12_best_0 ?_
  refine aw_i2l 1 dX12_best_1 ?_
  refine aw_lc0 2 dX12_best_2 ?_
  refine aw_ldc2 3 (99) dX12_best_3 ckL_RX12_126 ?_
  refine sd_call1 6 dX12_best_6 (c_in2 (0) (99) (by decide) (by decide)) ckS_RX12_99 cd_X12_in rfl (Nat.le_of_ble_eq_true rfl) ⟨⟨by decide, by decide⟩, by decide, by decide⟩ rfl ?_
  refine aw_ifeq_b 9 24 dX12_best_9 (by decide) (fun h9 => ?_) (fun h9 => ?_)
  · first | exact absurd h1 h9 | exact absurd h2 h21
  · refine aw_iload2 12 dX12_best_12 ?_
    refine aw_i2l 13 dX12_best_13 ?_
    refine aw_lc0 14 dX12_best_14 ?_
    refine aw_ldc2 15 (2) dX12_best_15 ckL_RX12_97 ?_
    refine sd_call1 18 dX12_best_18 (c_in2 (0) (2) (by decide) (by decide)) ckS_RX12_99 cd_X12_in rfl (Nat.le_of_ble_eq_true rfl) ⟨⟨by decide, by decide⟩, by decide, by decide⟩ rfl ?_
    refine aw_ifne_b 21 27 dX12_best_21 (by decide) (fun h21 => ?_) (fun h21 => ?_)
    · refine aw_ic0 27 dX12_best_27 ?_
      refine aw_istore3 28 dX12_best_28 rfl ?_
      refine aw_ic1 29 dX12_best_29 ?_
      refine aw_istore4 30 dX12_best_30 rfl ?_
      have LP32 : ∀ (dd : Nat) (n b : Nat) (M : Mem) (z y : Option Value), 2 ^ nK τ - 1 - n = dd → (n ≤ 2 ^ nK τ - 1) → (b = bst τ h n) → (RO τ M0 M) → AW mX12_best rmX12_best (fun r' M' => r' = (some (.int (sBe τ h w))) ∧ RO (τ) M0 M') 32 [some (.ref 25), some (.int h), some (.int w), some (.int (nI b)), some (.int (nI (n + 1))), z, y] [] M 0 0 := by
        intro dd
        induction dd using Nat.strongRecOn with
        | _ dd ih32 =>
          intro n b M z y hdd hn hb hW
          have hbl : b ≤ n := by rw [hb]; exact bst_le τ h n
          refine aw_iload4 32 dX12_best_32 ?_
          refine aw_ic1 34 dX12_best_34 ?_
          refine aw_aload0 35 dX12_best_35 ?_
          refine rw_gi 36 24 dX12_best_36 ckF_RX12_291_12 (by decide) rfl hW ?_
          refine aw_topi (w := nI (nK τ)) (hk.2) ?_
          refine aw_ishl 39 dX12_best_39 ?_
          refine aw_topi (shl1 _ (by omega)) ?_
          refine aw_icmp_geN 40 121 (n + 1) (2 ^ nK τ) dX12_best_40 (by decide) rfl rfl (by omega) (by omega) (fun h40 => ?_) (fun h40 => ?_)
          · have he : n = 2 ^ nK τ - 1 := by omega
            subst he
            subst hb
            refine aw_iload2 121 dX12_best_121 ?_
            refine aw_if_ne 122 129 dX12_best_122 (by decide) (fun h122 => ?_) (fun h122 => ?_)
            · refine aw_aload0 129 dX12_best_129 ?_
              refine aw_iload3 130 dX12_best_130 ?_
              refine aw_iload2 131 dX12_best_131 ?_
              refine rw_call1 132 dX12_best_132 (show RD mX12_ofLooks rmX12_ofLooks [.int (nI (bst τ h (2 ^ nK τ - 1))), .int w] τ (some (.int (olks τ (bst τ h (2 ^ nK τ - 1)) w))) τ from c_X12_ofLooks hk) ckV_RX12_294 cd_X12_ofLooks rfl hW rfl (Nat.le_of_ble_eq_true rfl) ⟨⟨by decide, by decide⟩, by decide, by decide⟩ rfl (fun M hW => ?_)
              refine aw_iret 135 dX12_best_135 rfl (Nat.zero_le _) (Nat.zero_le _) ?_
              refine ⟨?_, hW⟩
              unfold sBe
              first
                | (rw [if_pos h122]; done)
                | (rw [if_neg h122]; done)
            · refine aw_iload3 125 dX12_best_125 ?_
              refine aw_goto 126 135 dX12_best_126 (by decide) ?_
              refine aw_iret 135 dX12_best_135 rfl (Nat.zero_le _) (Nat.zero_le _) ?_
              refine ⟨?_, hW⟩
              unfold sBe
              first
                | (rw [if_pos h122]; done)
                | (rw [if_neg h122]; done)
          · refine aw_aload0 43 dX12_best_43 ?_
            refine aw_iload4 44 dX12_best_44 ?_
            refine aw_ic1 46 dX12_best_46 ?_
            refine rw_call1 47 dX12_best_47 (show RD mX12_ofLooks rmX12_ofLooks [.int (nI (n + 1)), .int 1] τ (some (.int (olks τ (n + 1) 1))) τ from c_X12_ofLooks hk) ckV_RX12_294 cd_X12_ofLooks rfl hW rfl (Nat.le_of_ble_eq_true rfl) ⟨⟨by decide, by decide⟩, by decide, by decide⟩ rfl (fun M hW => ?_)
            refine aw_aload0 50 dX12_best_50 ?_
            refine aw_iload3 51 dX12_best_51 ?_
            refine aw_ic1 52 dX12_best_52 ?_
            refine rw_call1 53 dX12_best_53 (show RD mX12_ofLooks rmX12_ofLooks [.int (nI b), .int 1] τ (some (.int (olks τ b 1))) τ from c_X12_ofLooks hk) ckV_RX12_294 cd_X12_ofLooks rfl hW rfl (Nat.le_of_ble_eq_true rfl) ⟨⟨by decide, by decide⟩, by decide, by decide⟩ rfl (fun M hW => ?_)
            refine aw_isub 56 dX12_best_56 ?_
            refine aw_istore5 57 dX12_best_57 rfl ?_
            refine aw_iload5 59 dX12_best_59 ?_
            refine aw_if_gt 61 85 dX12_best_61 (by decide) (fun h61 => ?_) (fun h61 => ?_)
            · have hbe : betr τ (n + 1) b := by
                first
                  | exact Or.inl h61
                  | exact Or.inr (And.intro h66 (Int32.not_le.mp h82))
              refine aw_ic1 85 dX12_best_85 ?_
              refine aw_goto 86 90 dX12_best_86 (by decide) ?_
              refine aw_istore6 90 dX12_best_90 rfl ?_
              refine aw_aload0 92 dX12_best_92 ?_
              refine aw_iload4 93 dX12_best_93 ?_
              refine aw_ic2 95 dX12_best_95 ?_
              refine rw_call1 96 dX12_best_96 (show RD mX12_ofLooks rmX12_ofLooks [.int (nI (n + 1)), .int 2] τ (some (.int (olks τ (n + 1) 2))) τ from c_X12_ofLooks hk) ckV_RX12_294 cd_X12_ofLooks rfl hW rfl (Nat.le_of_ble_eq_true rfl) ⟨⟨by decide, by decide⟩, by decide, by decide⟩ rfl (fun M hW => ?_)
              refine aw_iload1 99 dX12_best_99 ?_
              refine aw_icmp_gt 100 113 dX12_best_100 (by decide) (fun h100 => ?_) (fun h100 => ?_)
              · have hb1 : bst τ h (n + 1) = b := by
                  rw [bst_s, ← hb]
                  first
                    | rw [if_neg (nl (Int32.not_le.mpr h100))]
                    | rw [if_neg (nr hbe)]
                refine aw_iload3 113 dX12_best_113 ?_
                refine aw_istore3 114 dX12_best_114 rfl ?_
                refine aw_iinc4 115 (nI (n + 1 + 1)) dX12_best_115 (nI_1 _) rfl ?_
                refine aw_goto 118 32 dX12_best_118 (by decide) ?_
                exact ih32 _ (by omega) (n + 1) _ M _ _ rfl (by omega) hb1.symm hW
              · refine aw_iload6 103 dX12_best_103 ?_
                refine aw_if_eqN 105 113 (1) dX12_best_105 (by decide) rfl (by decide) (fun h => absurd h (by decide)) (fun _ => ?_)
                have hb1 : bst τ h (n + 1) = n + 1 := by rw [bst_s, ← hb, if_pos (And.intro (Int32.not_lt.mp h100) hbe)]
                refine aw_iload4 108 dX12_best_108 ?_
                refine aw_goto 110 114 dX12_best_110 (by decide) ?_
                refine aw_istore3 114 dX12_best_114 rfl ?_
                refine aw_iinc4 115 (nI (n + 1 + 1)) dX12_best_115 (nI_1 _) rfl ?_
                refine aw_goto 118 32 dX12_best_118 (by decide) ?_
                exact ih32 _ (by omega) (n + 1) _ M _ _ rfl (by omega) hb1.symm hW
            · refine aw_iload5 64 dX12_best_64 ?_
              refine aw_if_ne 66 89 dX12_best_66 (by decide) (fun h66 => ?_) (fun h66 => ?_)
              · have hbe : ¬ betr τ (n + 1) b := by
                  first
                    | exact fun q => q.elim h61 (fun z => h66 z.1)
                    | exact fun q => q.elim h61 (fun z => absurd z.2 (Int32.not_lt.mpr h82))
                refine aw_ic0 89 dX12_best_89 ?_
                refine aw_istore6 90 dX12_best_90 rfl ?_
                refine aw_aload0 92 dX12_best_92 ?_
                refine aw_iload4 93 dX12_best_93 ?_
                refine aw_ic2 95 dX12_best_95 ?_
                refine rw_call1 96 dX12_best_96 (show RD mX12_ofLooks rmX12_ofLooks [.int (nI (n + 1)), .int 2] τ (some (.int (olks τ (n + 1) 2))) τ from c_X12_ofLooks hk) ckV_RX12_294 cd_X12_ofLooks rfl hW rfl (Nat.le_of_ble_eq_true rfl) ⟨⟨by decide, by decide⟩, by decide, by decide⟩ rfl (fun M hW => ?_)
                refine aw_iload1 99 dX12_best_99 ?_
                refine aw_icmp_gt 100 113 dX12_best_100 (by decide) (fun h100 => ?_) (fun h100 => ?_)
                · have hb1 : bst τ h (n + 1) = b := by
                    rw [bst_s, ← hb]
                    first
                      | rw [if_neg (nl (Int32.not_le.mpr h100))]
                      | rw [if_neg (nr hbe)]
                  refine aw_iload3 113 dX12_best_113 ?_
                  refine aw_istore3 114 dX12_best_114 rfl ?_
                  refine aw_iinc4 115 (nI (n + 1 + 1)) dX12_best_115 (nI_1 _) rfl ?_
                  refine aw_goto 118 32 dX12_best_118 (by decide) ?_
                  exact ih32 _ (by omega) (n + 1) _ M _ _ rfl (by omega) hb1.symm hW
                · refine aw_iload6 103 dX12_best_103 ?_
                  refine aw_if_eqN 105 113 (0) dX12_best_105 (by decide) rfl (by decide) (fun _ => ?_) (fun h => absurd h (by decide))
                  have hb1 : bst τ h (n + 1) = b := by
                    rw [bst_s, ← hb]
                    first
                      | rw [if_neg (nl (Int32.not_le.mpr h100))]
                      | rw [if_neg (nr hbe)]
                  refine aw_iload3 113 dX12_best_113 ?_
                  refine aw_istore3 114 dX12_best_114 rfl ?_
                  refine aw_iinc4 115 (nI (n + 1 + 1)) dX12_best_115 (nI_1 _) rfl ?_
                  refine aw_goto 118 32 dX12_best_118 (by decide) ?_
                  exact ih32 _ (by omega) (n + 1) _ M _ _ rfl (by omega) hb1.symm hW
              · refine aw_aload0 69 dX12_best_69 ?_
                refine aw_iload4 70 dX12_best_70 ?_
                refine aw_ic2 72 dX12_best_72 ?_
                refine rw_call1 73 dX12_best_73 (show RD mX12_ofLooks rmX12_ofLooks [.int (nI (n + 1)), .int 2] τ (some (.int (olks τ (n + 1) 2))) τ from c_X12_ofLooks hk) ckV_RX12_294 cd_X12_ofLooks rfl hW rfl (Nat.le_of_ble_eq_true rfl) ⟨⟨by decide, by decide⟩, by decide, by decide⟩ rfl (fun M hW => ?_)
                refine aw_aload0 76 dX12_best_76 ?_
                refine aw_iload3 77 dX12_best_77 ?_
                refine aw_ic2 78 dX12_best_78 ?_
                refine rw_call1 79 dX12_best_79 (show RD mX12_ofLooks rmX12_ofLooks [.int (nI b), .int 2] τ (some (.int (olks τ b 2))) τ from c_X12_ofLooks hk) ckV_RX12_294 cd_X12_ofLooks rfl hW rfl (Nat.le_of_ble_eq_true rfl) ⟨⟨by decide, by decide⟩, by decide, by decide⟩ rfl (fun M hW => ?_)
                refine aw_icmp_ge 82 89 dX12_best_82 (by decide) (fun h82 => ?_) (fun h82 => ?_)
                · have hbe : ¬ betr τ (n + 1) b := by
                    first
                      | exact fun q => q.elim h61 (fun z => h66 z.1)
                      | exact fun q => q.elim h61 (fun z => absurd z.2 (Int32.not_lt.mpr h82))
                  refine aw_ic0 89 dX12_best_89 ?_
                  refine aw_istore6 90 dX12_best_90 rfl ?_
                  refine aw_aload0 92 dX12_best_92 ?_
                  refine aw_iload4 93 dX12_best_93 ?_
                  refine aw_ic2 95 dX12_best_95 ?_
                  refine rw_call1 96 dX12_best_96 (show RD mX12_ofLooks rmX12_ofLooks [.int (nI (n + 1)), .int 2] τ (some (.int (olks τ (n + 1) 2))) τ from c_X12_ofLooks hk) ckV_RX12_294 cd_X12_ofLooks rfl hW rfl (Nat.le_of_ble_eq_true rfl) ⟨⟨by decide, by decide⟩, by decide, by decide⟩ rfl (fun M hW => ?_)
                  refine aw_iload1 99 dX12_best_99 ?_
                  refine aw_icmp_gt 100 113 dX12_best_100 (by decide) (fun h100 => ?_) (fun h100 => ?_)
                  · have hb1 : bst τ h (n + 1) = b := by
                      rw [bst_s, ← hb]
                      first
                        | rw [if_neg (nl (Int32.not_le.mpr h100))]
                        | rw [if_neg (nr hbe)]
                    refine aw_iload3 113 dX12_best_113 ?_
                    refine aw_istore3 114 dX12_best_114 rfl ?_
                    refine aw_iinc4 115 (nI (n + 1 + 1)) dX12_best_115 (nI_1 _) rfl ?_
                    refine aw_goto 118 32 dX12_best_118 (by decide) ?_
                    exact ih32 _ (by omega) (n + 1) _ M _ _ rfl (by omega) hb1.symm hW
                  · refine aw_iload6 103 dX12_best_103 ?_
                    refine aw_if_eqN 105 113 (0) dX12_best_105 (by decide) rfl (by decide) (fun _ => ?_) (fun h => absurd h (by decide))
                    have hb1 : bst τ h (n + 1) = b := by
                      rw [bst_s, ← hb]
                      first
                        | rw [if_neg (nl (Int32.not_le.mpr h100))]
                        | rw [if_neg (nr hbe)]
                    refine aw_iload3 113 dX12_best_113 ?_
                    refine aw_istore3 114 dX12_best_114 rfl ?_
                    refine aw_iinc4 115 (nI (n + 1 + 1)) dX12_best_115 (nI_1 _) rfl ?_
                    refine aw_goto 118 32 dX12_best_118 (by decide) ?_
                    exact ih32 _ (by omega) (n + 1) _ M _ _ rfl (by omega) hb1.symm hW
                · have hbe : betr τ (n + 1) b := by
                    first
                      | exact Or.inl h61
                      | exact Or.inr (And.intro h66 (Int32.not_le.mp h82))
                  refine aw_ic1 85 dX12_best_85 ?_
                  refine aw_goto 86 90 dX12_best_86 (by decide) ?_
                  refine aw_istore6 90 dX12_best_90 rfl ?_
                  refine aw_aload0 92 dX12_best_92 ?_
                  refine aw_iload4 93 dX12_best_93 ?_
                  refine aw_ic2 95 dX12_best_95 ?_
                  refine rw_call1 96 dX12_best_96 (show RD mX12_ofLooks rmX12_ofLooks [.int (nI (n + 1)), .int 2] τ (some (.int (olks τ (n + 1) 2))) τ from c_X12_ofLooks hk) ckV_RX12_294 cd_X12_ofLooks rfl hW rfl (Nat.le_of_ble_eq_true rfl) ⟨⟨by decide, by decide⟩, by decide, by decide⟩ rfl (fun M hW => ?_)
                  refine aw_iload1 99 dX12_best_99 ?_
                  refine aw_icmp_gt 100 113 dX12_best_100 (by decide) (fun h100 => ?_) (fun h100 => ?_)
                  · have hb1 : bst τ h (n + 1) = b := by
                      rw [bst_s, ← hb]
                      first
                        | rw [if_neg (nl (Int32.not_le.mpr h100))]
                        | rw [if_neg (nr hbe)]
                    refine aw_iload3 113 dX12_best_113 ?_
                    refine aw_istore3 114 dX12_best_114 rfl ?_
                    refine aw_iinc4 115 (nI (n + 1 + 1)) dX12_best_115 (nI_1 _) rfl ?_
                    refine aw_goto 118 32 dX12_best_118 (by decide) ?_
                    exact ih32 _ (by omega) (n + 1) _ M _ _ rfl (by omega) hb1.symm hW
                  · refine aw_iload6 103 dX12_best_103 ?_
                    refine aw_if_eqN 105 113 (1) dX12_best_105 (by decide) rfl (by decide) (fun h => absurd h (by decide)) (fun _ => ?_)
                    have hb1 : bst τ h (n + 1) = n + 1 := by rw [bst_s, ← hb, if_pos (And.intro (Int32.not_lt.mp h100) hbe)]
                    refine aw_iload4 108 dX12_best_108 ?_
                    refine aw_goto 110 114 dX12_best_110 (by decide) ?_
                    refine aw_istore3 114 dX12_best_114 rfl ?_
                    refine aw_iinc4 115 (nI (n + 1 + 1)) dX12_best_115 (nI_1 _) rfl ?_
                    refine aw_goto 118 32 dX12_best_118 (by decide) ?_
                    exact ih32 _ (by omega) (n + 1) _ M _ _ rfl (by omega) hb1.symm hW
      exact LP32 _ 0 0 M _ _ rfl (Nat.zero_le _) rfl hW
    · first | exact absurd h1 h9 | exact absurd h2 h21

def nbo (τ : TT) (p : Nat) (tk : Int32) : Nat → Option Nat
  | 0 => none
  | q + 1 => if hbt tk q then nbo τ p tk q else (nbo τ p tk q).elim (some q) (fun b => if lkn τ p q < lkn τ p b then some q else some b)
theorem nbo_s {τ : TT} {p q : Nat} {tk : Int32} : nbo τ p tk (q + 1) = if hbt tk q then nbo τ p tk q else (nbo τ p tk q).elim (some q) (fun b => if lkn τ p q < lkn τ p b then some q else some b) := rfl
def ob (x : Option Nat) : Int32 := x.elim (-9) nI
theorem nbo_lt {τ : TT} {p : Nat} {tk : Int32} {n b : Nat} (h : nbo τ p tk n = some b) : b < n := by
  induction n generalizing b with
  | zero => cases h
  | succ n ih =>
    rw [nbo_s] at h
    by_cases h1 : hbt tk n
    · rw [if_pos h1] at h
      have := ih h
      omega
    · rw [if_neg h1] at h
      cases hn : nbo τ p tk n with
      | none => rw [hn] at h; have h := Option.some.inj h; omega
      | some c =>
        rw [hn] at h
        have h2 := ih hn
        have h : (if lkn τ p n < lkn τ p c then some n else some c) = some b := h
        by_cases h3 : lkn τ p n < lkn τ p c
        · rw [if_pos h3] at h; have h := Option.some.inj h; omega
        · rw [if_neg h3] at h; have h := Option.some.inj h; omega
def nrs (τ : TT) (p : Nat) : Nat → Int32
  | 0 => 1 <<< (nI p &&& 31)
  | x + 1 => nrs τ p x ||| (1 <<< (ob (nbo τ p (nrs τ p x) (nP τ)) &&& 31))
theorem nrs_s {τ : TT} {p x : Nat} : nrs τ p (x + 1) = nrs τ p x ||| (1 <<< (ob (nbo τ p (nrs τ p x) (nP τ)) &&& 31)) := rfl

def rmX12_nearest : Room := { frames := 3, cells := 0, slots := 0, locals := 70 }
set_option maxHeartbeats 4000000 in
set_option maxRecDepth 100000 in
theorem n_X12_nearest {τ : TT} {v w : Int32} (hw : WP τ) (hno : ¬ ir v (nP τ) ∨ ¬ irg w 0 10) : RD mX12_nearest rmX12_nearest [.int v, .int w] τ (some (.int (-1))) (τ) := by
  intro M0 hW0
  refine am_of rfl rfl (ls := [some (.ref 25), some (.int v), some (.int w), none, none, none, none]) rfl ?_
  suffices HH : ∀ M, RO τ M0 M → AW mX12_nearest rmX12_nearest (fun r' M' => r' = (some (.int (-1))) ∧ RO (τ) M0 M') 0 [some (.ref 25), some (.int v), some (.int w), none, none, none, none] [] M 0 0 from HH M0 ⟨hW0, Off.rf M0⟩
  intro M hW
  refine aw_aload0 0 dX12_nearest_0 ?_
  refine aw_iload1 1 dX12_nearest_1 ?_
  refine rw_call1 2 dX12_nearest_2 (c_X12_noPicture hw) ckV_RX12_146 cd_X12_noPicture rfl hW rfl (Nat.le_of_ble_eq_true rfl) ⟨⟨by decide, by decide⟩, by decide, by decide⟩ rfl (fun M hW => ?_)
  refine aw_ifne_b 5 20 dX12_nearest_5 (by decide) (fun h5 => ?_) (fun h5 => ?_)
  · refine aw_icm1 20 dX12_nearest_20 ?_
    refine aw_iret 21 dX12_nearest_21 rfl (Nat.zero_le _) (Nat.zero_le _) ?_
    exact ⟨rfl, hW⟩
  · refine aw_iload2 8 dX12_nearest_8 ?_
    refine aw_i2l 9 dX12_nearest_9 ?_
    refine aw_lc0 10 dX12_nearest_10 ?_
    refine aw_ldc2 11 (10) dX12_nearest_11 ckL_RX12_155 ?_
    refine sd_call1 14 dX12_nearest_14 (c_in2 (0) (10) (by decide) (by decide)) ckS_RX12_99 cd_X12_in rfl (Nat.le_of_ble_eq_true rfl) ⟨⟨by decide, by decide⟩, by decide, by decide⟩ rfl ?_
    refine aw_ifne_b 17 22 dX12_nearest_17 (by decide) (fun h17 => ?_) (fun h17 => ?_)
    · exact absurd hno (fun q => q.elim h5 (fun z => z h17))
    · refine aw_icm1 20 dX12_nearest_20 ?_
      refine aw_iret 21 dX12_nearest_21 rfl (Nat.zero_le _) (Nat.zero_le _) ?_
      exact ⟨rfl, hW⟩

set_option maxHeartbeats 4000000 in
set_option maxRecDepth 100000 in
theorem c_X12_nearest {τ : TT} {p k : Nat} (hw : WP τ) (hp : p < nP τ) (hk : k ≤ 10) (hsome : ∀ y, y ≤ k → ∃ b, nbo τ p (nrs τ p y) (nP τ) = some b) : RD mX12_nearest rmX12_nearest [.int (nI p), .int (nI k)] τ (some (.int (ob (nbo τ p (nrs τ p k) (nP τ))))) (τ) := by
  intro M0 hW0
  refine am_of rfl rfl (ls := [some (.ref 25), some (.int (nI p)), some (.int (nI k)), none, none, none, none]) rfl ?_
  suffices HH : ∀ M, RO τ M0 M → AW mX12_nearest rmX12_nearest (fun r' M' => r' = (some (.int (ob (nbo τ p (nrs τ p k) (nP τ))))) ∧ RO (τ) M0 M') 0 [some (.ref 25), some (.int (nI p)), some (.int (nI k)), none, none, none, none] [] M 0 0 from HH M0 ⟨hW0, Off.rf M0⟩
  intro M hW
  have hn12 := hw.1.1
  have hwd := (hw.2 p hp).1
  have hhg := (hw.2 p hp).2
  have hip := ir_nI (n := nP τ) (by omega) hp
  have hik : irg (nI k) 0 10 := irg_nI (b := 10) (by decide) hk
  refine aw_aload0 0 dX12_nearest_0 ?_
  refine aw_iload1 1 dX12_nearest_1 ?_
  refine rw_call1 2 dX12_nearest_2 (c_X12_noPicture hw) ckV_RX12_146 cd_X12_noPicture rfl hW rfl (Nat.le_of_ble_eq_true rfl) ⟨⟨by decide, by decide⟩, by decide, by decide⟩ rfl (fun M hW => ?_)
  refine aw_ifne_b 5 20 dX12_nearest_5 (by decide) (fun h5 => ?_) (fun h5 => ?_)
  · first | exact absurd hip h5 | exact absurd hik h17
  · refine aw_iload2 8 dX12_nearest_8 ?_
    refine aw_i2l 9 dX12_nearest_9 ?_
    refine aw_lc0 10 dX12_nearest_10 ?_
    refine aw_ldc2 11 (10) dX12_nearest_11 ckL_RX12_155 ?_
    refine sd_call1 14 dX12_nearest_14 (c_in2 (0) (10) (by decide) (by decide)) ckS_RX12_99 cd_X12_in rfl (Nat.le_of_ble_eq_true rfl) ⟨⟨by decide, by decide⟩, by decide, by decide⟩ rfl ?_
    refine aw_ifne_b 17 22 dX12_nearest_17 (by decide) (fun h17 => ?_) (fun h17 => ?_)
    · refine aw_ic1 22 dX12_nearest_22 ?_
      refine aw_iload1 23 dX12_nearest_23 ?_
      refine aw_ishl 24 dX12_nearest_24 ?_
      refine aw_istore3 25 dX12_nearest_25 rfl ?_
      refine aw_bipush 26 (-9) dX12_nearest_26 (by decide) ?_
      refine aw_istore4 28 dX12_nearest_28 rfl ?_
      refine aw_ic0 30 dX12_nearest_30 ?_
      refine aw_istore5 31 dX12_nearest_31 rfl ?_
      have LP33 : ∀ (dd : Nat) (x : Nat) (tk bv : Int32) (M : Mem) (z : Option Value), k + 1 - x = dd → (x ≤ k + 1) → (tk = nrs τ p x) → (∀ y, y < x → ∃ b, nbo τ p (nrs τ p y) (nP τ) = some b) → (x = k + 1 → bv = ob (nbo τ p (nrs τ p k) (nP τ))) → (RO τ M0 M) → AW mX12_nearest rmX12_nearest (fun r' M' => r' = (some (.int (ob (nbo τ p (nrs τ p k) (nP τ))))) ∧ RO (τ) M0 M') 33 [some (.ref 25), some (.int (nI p)), some (.int (nI k)), some (.int tk), some (.int bv), some (.int (nI x)), z] [] M 0 0 := by
        intro dd
        induction dd using Nat.strongRecOn with
        | _ dd ih33 =>
          intro x tk bv M z hdd hx htk hall hlast hW
          refine aw_iload5 33 dX12_nearest_33 ?_
          refine aw_iload2 35 dX12_nearest_35 ?_
          refine aw_icmp_gtN 36 122 (x) (k) dX12_nearest_36 (by decide) rfl rfl (by omega) (by omega) (fun h36 => ?_) (fun h36 => ?_)
          · have he : x = k + 1 := by omega
            refine aw_iload4 122 dX12_nearest_122 ?_
            refine aw_iret 124 dX12_nearest_124 rfl (Nat.zero_le _) (Nat.zero_le _) ?_
            exact ⟨by rw [hlast he], hW⟩
          · refine aw_bipush 39 (-9) dX12_nearest_39 (by decide) ?_
            refine aw_istore4 41 dX12_nearest_41 rfl ?_
            refine aw_ic0 43 dX12_nearest_43 ?_
            refine aw_istore6 44 dX12_nearest_44 rfl ?_
            have LP46 : ∀ (dd : Nat) (q : Nat) (bv : Int32) (M : Mem), nP τ - q = dd → (q ≤ nP τ) → (bv = ob (nbo τ p tk q)) → (RO τ M0 M) → AW mX12_nearest rmX12_nearest (fun r' M' => r' = (some (.int (ob (nbo τ p (nrs τ p k) (nP τ))))) ∧ RO (τ) M0 M') 46 [some (.ref 25), some (.int (nI p)), some (.int (nI k)), some (.int tk), some (.int bv), some (.int (nI x)), some (.int (nI q))] [] M 0 0 := by
              intro dd
              induction dd using Nat.strongRecOn with
              | _ dd ih46 =>
                intro q bv M hdd hq hbv hW
                refine aw_iload6 46 dX12_nearest_46 ?_
                refine aw_aload0 48 dX12_nearest_48 ?_
                refine rw_gi 49 1 dX12_nearest_49 ckF_RX12_105_12 (by decide) rfl hW ?_
                refine aw_topi (w := nI (nP τ)) (hw.1.2) ?_
                refine aw_icmp_geN 52 101 (q) (nP τ) dX12_nearest_52 (by decide) rfl rfl (by omega) (by omega) (fun h52 => ?_) (fun h52 => ?_)
                · have he : q = nP τ := by omega
                  subst he
                  cases hn : nbo τ p tk (nP τ) with
                  | none =>
                    rw [hn] at hbv
                    replace hbv : bv = -9 := hbv
                    subst hbv
                    refine aw_iload4 101 dX12_nearest_101 ?_
                    refine aw_if_ge 103 109 dX12_nearest_103 (by decide) (fun h => absurd h (by decide)) (fun _ => ?_)
                    refine aw_bipush 106 (-9) dX12_nearest_106 (by decide) ?_
                    refine aw_iret 108 dX12_nearest_108 rfl (Nat.zero_le _) (Nat.zero_le _) ?_
                    obtain ⟨b, hb⟩ := hsome x (by omega)
                    exact absurd (htk ▸ hn) (by rw [hb]; exact fun q => by cases q)
                  | some b =>
                    have hblt := nbo_lt hn
                    rw [hn] at hbv
                    replace hbv : bv = nI b := hbv
                    subst hbv
                    refine aw_iload4 101 dX12_nearest_101 ?_
                    refine aw_if_geN 103 109 b dX12_nearest_103 (by decide) rfl (by omega) ?_
                    refine aw_iload3 109 dX12_nearest_109 ?_
                    refine aw_ic1 110 dX12_nearest_110 ?_
                    refine aw_iload4 111 dX12_nearest_111 ?_
                    refine aw_ishl 113 dX12_nearest_113 ?_
                    refine aw_ior 114 dX12_nearest_114 ?_
                    refine aw_istore3 115 dX12_nearest_115 rfl ?_
                    have htk1 : nrs τ p (x + 1) = tk ||| (1 <<< (nI b &&& 31)) := by rw [nrs_s, ← htk, hn]; rfl
                    refine aw_iinc5 116 (nI (x + 1)) dX12_nearest_116 (nI_1 _) rfl ?_
                    refine aw_goto 119 33 dX12_nearest_119 (by decide) ?_
                    exact ih33 _ (by omega) (x + 1) _ _ M _ rfl (by omega) htk1.symm (lt_s hall ⟨b, htk ▸ hn⟩) (fun q => by rw [← show x = k from by omega, ← htk, hn]; rfl) hW
                · refine aw_iload3 55 dX12_nearest_55 ?_
                  refine aw_iload6 56 dX12_nearest_56 ?_
                  refine sd_call1 58 dX12_nearest_58 (c_X12_hasBit (s := tk) (k := nI q)) ckS_RX12_262 cd_X12_hasBit rfl (Nat.le_of_ble_eq_true rfl) ⟨⟨by decide, by decide⟩, by decide, by decide⟩ rfl ?_
                  refine aw_ifne_b 61 91 dX12_nearest_61 (by decide) (fun h61 => ?_) (fun h61 => ?_)
                  · have hbv1 : ob (nbo τ p tk (q + 1)) = bv := by rw [nbo_s, if_pos h61]; exact hbv.symm
                    refine aw_iload4 91 dX12_nearest_91 ?_
                    refine aw_istore4 93 dX12_nearest_93 rfl ?_
                    refine aw_iinc6 95 (nI (q + 1)) dX12_nearest_95 (nI_1 _) rfl ?_
                    refine aw_goto 98 46 dX12_nearest_98 (by decide) ?_
                    exact ih46 _ (by omega) (q + 1) _ M rfl (by omega) hbv1.symm hW
                  · cases hn : nbo τ p tk q with
                    | none =>
                      rw [hn] at hbv
                      replace hbv : bv = -9 := hbv
                      subst hbv
                      refine aw_iload4 64 dX12_nearest_64 ?_
                      refine aw_if_lt 66 86 dX12_nearest_66 (by decide) (fun _ => ?_) (fun h => absurd (show (-9 : Int32) < 0 by decide) h)
                      have hbv1 : ob (nbo τ p tk (q + 1)) = nI q := by rw [nbo_s, if_neg h61, hn]; rfl
                      refine aw_iload6 86 dX12_nearest_86 ?_
                      refine aw_goto 88 93 dX12_nearest_88 (by decide) ?_
                      refine aw_istore4 93 dX12_nearest_93 rfl ?_
                      refine aw_iinc6 95 (nI (q + 1)) dX12_nearest_95 (nI_1 _) rfl ?_
                      refine aw_goto 98 46 dX12_nearest_98 (by decide) ?_
                      exact ih46 _ (by omega) (q + 1) _ M rfl (by omega) hbv1.symm hW
                    | some b =>
                      have hblt := nbo_lt hn
                      rw [hn] at hbv
                      replace hbv : bv = nI b := hbv
                      subst hbv
                      refine aw_iload4 64 dX12_nearest_64 ?_
                      refine aw_if_ltN 66 86 b dX12_nearest_66 (by decide) rfl (by omega) ?_
                      refine aw_aload0 69 dX12_nearest_69 ?_
                      refine aw_iload1 70 dX12_nearest_70 ?_
                      refine aw_iload6 71 dX12_nearest_71 ?_
                      refine rw_call1 73 dX12_nearest_73 (c_X12_likeness hw hp (q := q) (by omega)) ckV_RX12_286 cd_X12_likeness rfl hW rfl (Nat.le_of_ble_eq_true rfl) ⟨⟨by decide, by decide⟩, by decide, by decide⟩ rfl (fun M hW => ?_)
                      refine aw_aload0 76 dX12_nearest_76 ?_
                      refine aw_iload1 77 dX12_nearest_77 ?_
                      refine aw_iload4 78 dX12_nearest_78 ?_
                      refine rw_call1 80 dX12_nearest_80 (c_X12_likeness hw hp (q := b) (by omega)) ckV_RX12_286 cd_X12_likeness rfl hW rfl (Nat.le_of_ble_eq_true rfl) ⟨⟨by decide, by decide⟩, by decide, by decide⟩ rfl (fun M hW => ?_)
                      refine aw_icmp_ge 83 91 dX12_nearest_83 (by decide) (fun h83 => ?_) (fun h83 => ?_)
                      · have hbv1 : ob (nbo τ p tk (q + 1)) = nI b := by
                          rw [nbo_s, if_neg h61, hn]
                          show ob (ite _ _ _) = _
                          rw [if_neg (Int32.not_lt.mpr h83)]
                          rfl
                        refine aw_iload4 91 dX12_nearest_91 ?_
                        refine aw_istore4 93 dX12_nearest_93 rfl ?_
                        refine aw_iinc6 95 (nI (q + 1)) dX12_nearest_95 (nI_1 _) rfl ?_
                        refine aw_goto 98 46 dX12_nearest_98 (by decide) ?_
                        exact ih46 _ (by omega) (q + 1) _ M rfl (by omega) hbv1.symm hW
                      · have hbv1 : ob (nbo τ p tk (q + 1)) = nI q := by
                          rw [nbo_s, if_neg h61, hn]
                          show ob (ite _ _ _) = _
                          rw [if_pos (Int32.not_le.mp h83)]
                          rfl
                        refine aw_iload6 86 dX12_nearest_86 ?_
                        refine aw_goto 88 93 dX12_nearest_88 (by decide) ?_
                        refine aw_istore4 93 dX12_nearest_93 rfl ?_
                        refine aw_iinc6 95 (nI (q + 1)) dX12_nearest_95 (nI_1 _) rfl ?_
                        refine aw_goto 98 46 dX12_nearest_98 (by decide) ?_
                        exact ih46 _ (by omega) (q + 1) _ M rfl (by omega) hbv1.symm hW
            exact LP46 _ 0 _ M rfl (Nat.zero_le _) rfl hW
      exact LP33 _ 0 _ _ M _ rfl (by omega) rfl (fun y hy => absurd hy (by omega)) (fun q => absurd q (by omega)) hW
    · first | exact absurd hip h5 | exact absurd hik h17

set_option maxHeartbeats 4000000 in
set_option maxRecDepth 100000 in
theorem n2_X12_nearest {τ : TT} {p k : Nat} (hw : WP τ) (hp : p < nP τ) (hk : k ≤ 10) (hnone : ∃ y, y ≤ k ∧ nbo τ p (nrs τ p y) (nP τ) = none) : RD mX12_nearest rmX12_nearest [.int (nI p), .int (nI k)] τ (some (.int (-9))) (τ) := by
  intro M0 hW0
  refine am_of rfl rfl (ls := [some (.ref 25), some (.int (nI p)), some (.int (nI k)), none, none, none, none]) rfl ?_
  suffices HH : ∀ M, RO τ M0 M → AW mX12_nearest rmX12_nearest (fun r' M' => r' = (some (.int (-9))) ∧ RO (τ) M0 M') 0 [some (.ref 25), some (.int (nI p)), some (.int (nI k)), none, none, none, none] [] M 0 0 from HH M0 ⟨hW0, Off.rf M0⟩
  intro M hW
  have hn12 := hw.1.1
  have hwd := (hw.2 p hp).1
  have hhg := (hw.2 p hp).2
  have hip := ir_nI (n := nP τ) (by omega) hp
  have hik : irg (nI k) 0 10 := irg_nI (b := 10) (by decide) hk
  refine aw_aload0 0 dX12_nearest_0 ?_
  refine aw_iload1 1 dX12_nearest_1 ?_
  refine rw_call1 2 dX12_nearest_2 (c_X12_noPicture hw) ckV_RX12_146 cd_X12_noPicture rfl hW rfl (Nat.le_of_ble_eq_true rfl) ⟨⟨by decide, by decide⟩, by decide, by decide⟩ rfl (fun M hW => ?_)
  refine aw_ifne_b 5 20 dX12_nearest_5 (by decide) (fun h5 => ?_) (fun h5 => ?_)
  · first | exact absurd hip h5 | exact absurd hik h17
  · refine aw_iload2 8 dX12_nearest_8 ?_
    refine aw_i2l 9 dX12_nearest_9 ?_
    refine aw_lc0 10 dX12_nearest_10 ?_
    refine aw_ldc2 11 (10) dX12_nearest_11 ckL_RX12_155 ?_
    refine sd_call1 14 dX12_nearest_14 (c_in2 (0) (10) (by decide) (by decide)) ckS_RX12_99 cd_X12_in rfl (Nat.le_of_ble_eq_true rfl) ⟨⟨by decide, by decide⟩, by decide, by decide⟩ rfl ?_
    refine aw_ifne_b 17 22 dX12_nearest_17 (by decide) (fun h17 => ?_) (fun h17 => ?_)
    · refine aw_ic1 22 dX12_nearest_22 ?_
      refine aw_iload1 23 dX12_nearest_23 ?_
      refine aw_ishl 24 dX12_nearest_24 ?_
      refine aw_istore3 25 dX12_nearest_25 rfl ?_
      refine aw_bipush 26 (-9) dX12_nearest_26 (by decide) ?_
      refine aw_istore4 28 dX12_nearest_28 rfl ?_
      refine aw_ic0 30 dX12_nearest_30 ?_
      refine aw_istore5 31 dX12_nearest_31 rfl ?_
      have LP33 : ∀ (dd : Nat) (x : Nat) (tk bv : Int32) (M : Mem) (z : Option Value), k + 1 - x = dd → (x ≤ k + 1) → (tk = nrs τ p x) → (∀ y, y < x → ∃ b, nbo τ p (nrs τ p y) (nP τ) = some b) → (x = k + 1 → bv = ob (nbo τ p (nrs τ p k) (nP τ))) → (RO τ M0 M) → AW mX12_nearest rmX12_nearest (fun r' M' => r' = (some (.int (-9))) ∧ RO (τ) M0 M') 33 [some (.ref 25), some (.int (nI p)), some (.int (nI k)), some (.int tk), some (.int bv), some (.int (nI x)), z] [] M 0 0 := by
        intro dd
        induction dd using Nat.strongRecOn with
        | _ dd ih33 =>
          intro x tk bv M z hdd hx htk hall hlast hW
          refine aw_iload5 33 dX12_nearest_33 ?_
          refine aw_iload2 35 dX12_nearest_35 ?_
          refine aw_icmp_gtN 36 122 (x) (k) dX12_nearest_36 (by decide) rfl rfl (by omega) (by omega) (fun h36 => ?_) (fun h36 => ?_)
          · obtain ⟨y, hy, hny⟩ := hnone
            obtain ⟨b, hb⟩ := hall y (by omega)
            exact absurd (hny.symm.trans hb) (fun q => by cases q)
          · refine aw_bipush 39 (-9) dX12_nearest_39 (by decide) ?_
            refine aw_istore4 41 dX12_nearest_41 rfl ?_
            refine aw_ic0 43 dX12_nearest_43 ?_
            refine aw_istore6 44 dX12_nearest_44 rfl ?_
            have LP46 : ∀ (dd : Nat) (q : Nat) (bv : Int32) (M : Mem), nP τ - q = dd → (q ≤ nP τ) → (bv = ob (nbo τ p tk q)) → (RO τ M0 M) → AW mX12_nearest rmX12_nearest (fun r' M' => r' = (some (.int (-9))) ∧ RO (τ) M0 M') 46 [some (.ref 25), some (.int (nI p)), some (.int (nI k)), some (.int tk), some (.int bv), some (.int (nI x)), some (.int (nI q))] [] M 0 0 := by
              intro dd
              induction dd using Nat.strongRecOn with
              | _ dd ih46 =>
                intro q bv M hdd hq hbv hW
                refine aw_iload6 46 dX12_nearest_46 ?_
                refine aw_aload0 48 dX12_nearest_48 ?_
                refine rw_gi 49 1 dX12_nearest_49 ckF_RX12_105_12 (by decide) rfl hW ?_
                refine aw_topi (w := nI (nP τ)) (hw.1.2) ?_
                refine aw_icmp_geN 52 101 (q) (nP τ) dX12_nearest_52 (by decide) rfl rfl (by omega) (by omega) (fun h52 => ?_) (fun h52 => ?_)
                · have he : q = nP τ := by omega
                  subst he
                  cases hn : nbo τ p tk (nP τ) with
                  | none =>
                    rw [hn] at hbv
                    replace hbv : bv = -9 := hbv
                    subst hbv
                    refine aw_iload4 101 dX12_nearest_101 ?_
                    refine aw_if_ge 103 109 dX12_nearest_103 (by decide) (fun h => absurd h (by decide)) (fun _ => ?_)
                    refine aw_bipush 106 (-9) dX12_nearest_106 (by decide) ?_
                    refine aw_iret 108 dX12_nearest_108 rfl (Nat.zero_le _) (Nat.zero_le _) ?_
                    exact ⟨rfl, hW⟩
                  | some b =>
                    have hblt := nbo_lt hn
                    rw [hn] at hbv
                    replace hbv : bv = nI b := hbv
                    subst hbv
                    refine aw_iload4 101 dX12_nearest_101 ?_
                    refine aw_if_geN 103 109 b dX12_nearest_103 (by decide) rfl (by omega) ?_
                    refine aw_iload3 109 dX12_nearest_109 ?_
                    refine aw_ic1 110 dX12_nearest_110 ?_
                    refine aw_iload4 111 dX12_nearest_111 ?_
                    refine aw_ishl 113 dX12_nearest_113 ?_
                    refine aw_ior 114 dX12_nearest_114 ?_
                    refine aw_istore3 115 dX12_nearest_115 rfl ?_
                    have htk1 : nrs τ p (x + 1) = tk ||| (1 <<< (nI b &&& 31)) := by rw [nrs_s, ← htk, hn]; rfl
                    refine aw_iinc5 116 (nI (x + 1)) dX12_nearest_116 (nI_1 _) rfl ?_
                    refine aw_goto 119 33 dX12_nearest_119 (by decide) ?_
                    exact ih33 _ (by omega) (x + 1) _ _ M _ rfl (by omega) htk1.symm (lt_s hall ⟨b, htk ▸ hn⟩) (fun q => by rw [← show x = k from by omega, ← htk, hn]; rfl) hW
                · refine aw_iload3 55 dX12_nearest_55 ?_
                  refine aw_iload6 56 dX12_nearest_56 ?_
                  refine sd_call1 58 dX12_nearest_58 (c_X12_hasBit (s := tk) (k := nI q)) ckS_RX12_262 cd_X12_hasBit rfl (Nat.le_of_ble_eq_true rfl) ⟨⟨by decide, by decide⟩, by decide, by decide⟩ rfl ?_
                  refine aw_ifne_b 61 91 dX12_nearest_61 (by decide) (fun h61 => ?_) (fun h61 => ?_)
                  · have hbv1 : ob (nbo τ p tk (q + 1)) = bv := by rw [nbo_s, if_pos h61]; exact hbv.symm
                    refine aw_iload4 91 dX12_nearest_91 ?_
                    refine aw_istore4 93 dX12_nearest_93 rfl ?_
                    refine aw_iinc6 95 (nI (q + 1)) dX12_nearest_95 (nI_1 _) rfl ?_
                    refine aw_goto 98 46 dX12_nearest_98 (by decide) ?_
                    exact ih46 _ (by omega) (q + 1) _ M rfl (by omega) hbv1.symm hW
                  · cases hn : nbo τ p tk q with
                    | none =>
                      rw [hn] at hbv
                      replace hbv : bv = -9 := hbv
                      subst hbv
                      refine aw_iload4 64 dX12_nearest_64 ?_
                      refine aw_if_lt 66 86 dX12_nearest_66 (by decide) (fun _ => ?_) (fun h => absurd (show (-9 : Int32) < 0 by decide) h)
                      have hbv1 : ob (nbo τ p tk (q + 1)) = nI q := by rw [nbo_s, if_neg h61, hn]; rfl
                      refine aw_iload6 86 dX12_nearest_86 ?_
                      refine aw_goto 88 93 dX12_nearest_88 (by decide) ?_
                      refine aw_istore4 93 dX12_nearest_93 rfl ?_
                      refine aw_iinc6 95 (nI (q + 1)) dX12_nearest_95 (nI_1 _) rfl ?_
                      refine aw_goto 98 46 dX12_nearest_98 (by decide) ?_
                      exact ih46 _ (by omega) (q + 1) _ M rfl (by omega) hbv1.symm hW
                    | some b =>
                      have hblt := nbo_lt hn
                      rw [hn] at hbv
                      replace hbv : bv = nI b := hbv
                      subst hbv
                      refine aw_iload4 64 dX12_nearest_64 ?_
                      refine aw_if_ltN 66 86 b dX12_nearest_66 (by decide) rfl (by omega) ?_
                      refine aw_aload0 69 dX12_nearest_69 ?_
                      refine aw_iload1 70 dX12_nearest_70 ?_
                      refine aw_iload6 71 dX12_nearest_71 ?_
                      refine rw_call1 73 dX12_nearest_73 (c_X12_likeness hw hp (q := q) (by omega)) ckV_RX12_286 cd_X12_likeness rfl hW rfl (Nat.le_of_ble_eq_true rfl) ⟨⟨by decide, by decide⟩, by decide, by decide⟩ rfl (fun M hW => ?_)
                      refine aw_aload0 76 dX12_nearest_76 ?_
                      refine aw_iload1 77 dX12_nearest_77 ?_
                      refine aw_iload4 78 dX12_nearest_78 ?_
                      refine rw_call1 80 dX12_nearest_80 (c_X12_likeness hw hp (q := b) (by omega)) ckV_RX12_286 cd_X12_likeness rfl hW rfl (Nat.le_of_ble_eq_true rfl) ⟨⟨by decide, by decide⟩, by decide, by decide⟩ rfl (fun M hW => ?_)
                      refine aw_icmp_ge 83 91 dX12_nearest_83 (by decide) (fun h83 => ?_) (fun h83 => ?_)
                      · have hbv1 : ob (nbo τ p tk (q + 1)) = nI b := by
                          rw [nbo_s, if_neg h61, hn]
                          show ob (ite _ _ _) = _
                          rw [if_neg (Int32.not_lt.mpr h83)]
                          rfl
                        refine aw_iload4 91 dX12_nearest_91 ?_
                        refine aw_istore4 93 dX12_nearest_93 rfl ?_
                        refine aw_iinc6 95 (nI (q + 1)) dX12_nearest_95 (nI_1 _) rfl ?_
                        refine aw_goto 98 46 dX12_nearest_98 (by decide) ?_
                        exact ih46 _ (by omega) (q + 1) _ M rfl (by omega) hbv1.symm hW
                      · have hbv1 : ob (nbo τ p tk (q + 1)) = nI q := by
                          rw [nbo_s, if_neg h61, hn]
                          show ob (ite _ _ _) = _
                          rw [if_pos (Int32.not_le.mp h83)]
                          rfl
                        refine aw_iload6 86 dX12_nearest_86 ?_
                        refine aw_goto 88 93 dX12_nearest_88 (by decide) ?_
                        refine aw_istore4 93 dX12_nearest_93 rfl ?_
                        refine aw_iinc6 95 (nI (q + 1)) dX12_nearest_95 (nI_1 _) rfl ?_
                        refine aw_goto 98 46 dX12_nearest_98 (by decide) ?_
                        exact ih46 _ (by omega) (q + 1) _ M rfl (by omega) hbv1.symm hW
            exact LP46 _ 0 _ M rfl (Nat.zero_le _) rfl hW
      exact LP33 _ 0 _ _ M _ rfl (by omega) rfl (fun y hy => absurd hy (by omega)) (fun q => absurd q (by omega)) hW
    · first | exact absurd hip h5 | exact absurd hik h17

