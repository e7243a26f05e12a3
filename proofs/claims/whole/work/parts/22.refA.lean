/-! the reference: what it does in its hand (rows laid by gen/refA.py) -/
theorem tu_same {τ : TT} {i k : Nat} : tu τ i k (τ i k) = τ := by
  funext a b
  unfold tu
  by_cases h : a = i ∧ b = k
  · rw [if_pos h, h.1, h.2]
  · rw [if_neg h]
def tih (τ : TT) (p : Nat) : TT := ov (tu (tu τ 9 0 (τ 2 p)) 10 0 (τ 3 p)) 11 0 16 (fun b => τ 4 (16 * p + b))

def rmX12_takeInHand : Room := { frames := 0, cells := 0, slots := 0, locals := 0 }
set_option maxHeartbeats 4000000 in
set_option maxRecDepth 100000 in
theorem c_X12_takeInHand {τ : TT} {p : Nat} (hp : p < 12) : RD mX12_takeInHand rmX12_takeInHand [.int (nI p)] τ (none) (tih τ p) := by
  intro M0 hW0
  refine am_of rfl rfl (ls := [some (.ref 25), some (.int (nI p)), none]) rfl ?_
  suffices HH : ∀ M, RO τ M0 M → AW mX12_takeInHand rmX12_takeInHand (fun r' M' => r' = (none) ∧ RO (tih τ p) M0 M') 0 [some (.ref 25), some (.int (nI p)), none] [] M 0 0 from HH M0 ⟨hW0, Off.rf M0⟩
  intro M hW
  refine aw_aload0 0 dX12_takeInHand_0 ?_
  refine aw_aload0 1 dX12_takeInHand_1 ?_
  refine rw_ga 2 2 dX12_takeInHand_2 ckF_RX12_7_12 (by decide) (by decide) hW ?_
  refine aw_iload1 5 dX12_takeInHand_5 ?_
  refine rw_ld 6 2 (p) dX12_takeInHand_6 hW rfl (show p < 12 by omega) ?_
  refine rw_pi 7 9 dX12_takeInHand_7 ckF_RX12_178_12 ckP12_9 rfl (by decide) rfl hW (fun M hW => ?_)
  refine aw_aload0 10 dX12_takeInHand_10 ?_
  refine aw_aload0 11 dX12_takeInHand_11 ?_
  refine rw_ga 12 3 dX12_takeInHand_12 ckF_RX12_13_12 (by decide) (by decide) hW ?_
  refine aw_iload1 15 dX12_takeInHand_15 ?_
  refine rw_ld 16 3 (p) dX12_takeInHand_16 hW rfl (show p < 12 by omega) ?_
  refine rw_pi 17 10 dX12_takeInHand_17 ckF_RX12_181_12 ckP12_10 rfl (by decide) rfl hW (fun M hW => ?_)
  refine aw_ic0 20 dX12_takeInHand_20 ?_
  refine aw_istore2 21 dX12_takeInHand_21 rfl ?_
  have LP22 : ∀ (dd : Nat) (k : Nat) (M : Mem), 16 - k = dd → (k ≤ 16) → (RO (ov (tu (tu τ 9 0 (τ 2 p)) 10 0 (τ 3 p)) 11 0 k (fun b => τ 4 (16 * p + b))) M0 M) → AW mX12_takeInHand rmX12_takeInHand (fun r' M' => r' = (none) ∧ RO (tih τ p) M0 M') 22 [some (.ref 25), some (.int (nI p)), some (.int (nI k))] [] M 0 0 := by
    intro dd
    induction dd using Nat.strongRecOn with
    | _ dd ih22 =>
      intro k M hdd hk hW
      refine aw_iload2 22 dX12_takeInHand_22 ?_
      refine aw_bipush 23 16 dX12_takeInHand_23 (by decide) ?_
      refine aw_icmp_geN 25 51 (k) (16) dX12_takeInHand_25 (by decide) rfl rfl (by omega) (by omega) (fun h25 => ?_) (fun h25 => ?_)
      · refine aw_vret 51 dX12_takeInHand_51 rfl (Nat.zero_le _) (Nat.zero_le _) ?_
        have he : k = 16 := by omega
        subst he
        exact ⟨rfl, hW⟩
      · refine aw_aload0 28 dX12_takeInHand_28 ?_
        refine rw_ga 29 11 dX12_takeInHand_29 ckF_RX12_25_12 (by decide) (by decide) hW ?_
        refine aw_iload2 32 dX12_takeInHand_32 ?_
        refine aw_aload0 33 dX12_takeInHand_33 ?_
        refine rw_ga 34 4 dX12_takeInHand_34 ckF_RX12_16_12 (by decide) (by decide) hW ?_
        refine aw_bipush 37 16 dX12_takeInHand_37 (by decide) ?_
        refine aw_iload1 39 dX12_takeInHand_39 ?_
        refine aw_imulN 40 (16) (p) dX12_takeInHand_40 rfl rfl ?_
        refine aw_iload2 41 dX12_takeInHand_41 ?_
        refine aw_iaddN 42 (16 * p) (k) dX12_takeInHand_42 rfl rfl ?_
        refine rw_ld 43 4 ((16 * p) + k) dX12_takeInHand_43 hW rfl (show (16 * p) + k < 192 by omega) ?_
        refine aw_topi (show _ = τ 4 (16 * p + k) by rw [ov_ne (by decide)]; rfl) ?_
        refine rw_st 44 11 (k) dX12_takeInHand_44 hW rfl (show k < 16 by omega) (fun M hW => ?_)
        replace hW := ro_eq hW (ov_up (f := fun b => τ 4 (16 * p + b)) (by omega) rfl)
        refine aw_iinc2 45 (nI (k + 1)) dX12_takeInHand_45 (nI_1 _) rfl ?_
        refine aw_goto 48 22 dX12_takeInHand_48 (by decide) ?_
        exact ih22 _ (by omega) (k + 1) M rfl (by omega) hW
  exact LP22 _ 0 M rfl (by omega) (ro_eq hW ov_nil.symm)

def pPl (x y w k : Nat) : Nat := x + k % w + 4 * (y + k / w)
def dPl (w k : Nat) : Nat := k % w + 4 * (k / w)
def smH (τ : TT) (x y w : Nat) : Nat → Int32
  | 0 => 0
  | k + 1 => smH τ x y w k + τ 11 (pPl x y w k)
def blT (τ : TT) (x y w : Nat) (s : Int32) : Nat → TT
  | 0 => τ
  | k + 1 => tu (blT τ x y w s k) 11 (pPl x y w k) s
def ctT (τ : TT) (x y w : Nat) : Nat → TT
  | 0 => τ
  | k + 1 => tu (ctT τ x y w k) 11 (dPl w k) (ctT τ x y w k 11 (pPl x y w k))
def tBl (τ : TT) (x y w h : Nat) : TT := blT τ x y w (smH τ x y w (w * h) / nI (w * h)) (w * h)
def tCt (τ : TT) (x y w h : Nat) : TT := tu (tu (ctT τ x y w (w * h)) 9 0 (nI w)) 10 0 (nI h)
theorem blT_ne {τ : TT} {x y w k i : Nat} {s : Int32} (h : i ≠ 11) : blT τ x y w s k i = τ i := by
  induction k with
  | zero => rfl
  | succ k ih => show tu _ _ _ _ i = _; rw [tu_ne h, ih]
theorem ctT_ne {τ : TT} {x y w k i : Nat} (h : i ≠ 11) : ctT τ x y w k i = τ i := by
  induction k with
  | zero => rfl
  | succ k ih => show tu _ _ _ _ i = _; rw [tu_ne h, ih]

def rmX12_doPart : Room := { frames := 0, cells := 0, slots := 0, locals := 0 }
set_option maxHeartbeats 4000000 in
set_option maxRecDepth 100000 in
theorem n_X12_doPart {τ : TT} {f a0 x y w h W H : Nat} (hf : f = 7 ∨ f = 22) (ha : a0 + 4 < rLen f) (hx : τ f (a0 + 1) = nI x) (hy : τ f (a0 + 2) = nI y) (hw : τ f (a0 + 3) = nI w) (hh : τ f (a0 + 4) = nI h) (h9 : x ≤ 9 ∧ y ≤ 9 ∧ w ≤ 9 ∧ h ≤ 9) (hWW : τ 9 0 = nI W ∧ W ≤ 4) (hHH : τ 10 0 = nI H ∧ H ≤ 4) (hno : ¬ (1 ≤ w ∧ 1 ≤ h ∧ x + w ≤ W ∧ y + h ≤ H)) : RD mX12_doPart rmX12_doPart [.ref (rAd f), .int (nI a0)] τ (some (.int 0)) (τ) := by
  intro M0 hW0
  refine am_of rfl rfl (ls := [some (.ref 25), some (.ref (rAd f)), some (.int (nI a0)), none, none, none, none, none, none, none]) rfl ?_
  suffices HH : ∀ M, RO τ M0 M → AW mX12_doPart rmX12_doPart (fun r' M' => r' = (some (.int 0)) ∧ RO (τ) M0 M') 0 [some (.ref 25), some (.ref (rAd f)), some (.int (nI a0)), none, none, none, none, none, none, none] [] M 0 0 from HH M0 ⟨hW0, Off.rf M0⟩
  intro M hW
  have hl300 := rLen_le f
  have hf11 : f ≠ 11 := by omega
  refine aw_aload1 0 dX12_doPart_0 ?_
  refine aw_iload2 1 dX12_doPart_1 ?_
  refine aw_ic1 2 dX12_doPart_2 ?_
  refine aw_iaddN 3 (a0) (1) dX12_doPart_3 rfl rfl ?_
  refine rw_ld 4 f (a0 + 1) dX12_doPart_4 hW rfl (show a0 + 1 < rLen f by omega) ?_
  refine aw_topi (w := nI x) (hx) ?_
  refine aw_istore3 5 dX12_doPart_5 rfl ?_
  refine aw_aload1 6 dX12_doPart_6 ?_
  refine aw_iload2 7 dX12_doPart_7 ?_
  refine aw_ic2 8 dX12_doPart_8 ?_
  refine aw_iaddN 9 (a0) (2) dX12_doPart_9 rfl rfl ?_
  refine rw_ld 10 f (a0 + 2) dX12_doPart_10 hW rfl (show a0 + 2 < rLen f by omega) ?_
  refine aw_topi (w := nI y) (hy) ?_
  refine aw_istore4 11 dX12_doPart_11 rfl ?_
  refine aw_aload1 13 dX12_doPart_13 ?_
  refine aw_iload2 14 dX12_doPart_14 ?_
  refine aw_ic3 15 dX12_doPart_15 ?_
  refine aw_iaddN 16 (a0) (3) dX12_doPart_16 rfl rfl ?_
  refine rw_ld 17 f (a0 + 3) dX12_doPart_17 hW rfl (show a0 + 3 < rLen f by omega) ?_
  refine aw_topi (w := nI w) (hw) ?_
  refine aw_istore5 18 dX12_doPart_18 rfl ?_
  refine aw_aload1 20 dX12_doPart_20 ?_
  refine aw_iload2 21 dX12_doPart_21 ?_
  refine aw_ic4 22 dX12_doPart_22 ?_
  refine aw_iaddN 23 (a0) (4) dX12_doPart_23 rfl rfl ?_
  refine rw_ld 24 f (a0 + 4) dX12_doPart_24 hW rfl (show a0 + 4 < rLen f by omega) ?_
  refine aw_topi (w := nI h) (hh) ?_
  refine aw_istore6 25 dX12_doPart_25 rfl ?_
  refine aw_iload5 27 dX12_doPart_27 ?_
  refine aw_ic1 29 dX12_doPart_29 ?_
  refine aw_icmp_ltN 30 62 (w) (1) dX12_doPart_30 (by decide) rfl rfl (by omega) (by omega) (fun h30 => ?_) (fun h30 => ?_)
  · refine aw_ic0 62 dX12_doPart_62 ?_
    refine aw_zret 63 dX12_doPart_63 rfl (by first | rfl | exact bi_nar | decide) (Nat.zero_le _) (Nat.zero_le _) ?_
    exact ⟨rfl, hW⟩
  · refine aw_iload6 33 dX12_doPart_33 ?_
    refine aw_ic1 35 dX12_doPart_35 ?_
    refine aw_icmp_ltN 36 62 (h) (1) dX12_doPart_36 (by decide) rfl rfl (by omega) (by omega) (fun h36 => ?_) (fun h36 => ?_)
    · refine aw_ic0 62 dX12_doPart_62 ?_
      refine aw_zret 63 dX12_doPart_63 rfl (by first | rfl | exact bi_nar | decide) (Nat.zero_le _) (Nat.zero_le _) ?_
      exact ⟨rfl, hW⟩
    · refine aw_iload3 39 dX12_doPart_39 ?_
      refine aw_iload5 40 dX12_doPart_40 ?_
      refine aw_iaddN 42 (x) (w) dX12_doPart_42 rfl rfl ?_
      refine aw_aload0 43 dX12_doPart_43 ?_
      refine rw_gi 44 9 dX12_doPart_44 ckF_RX12_178_12 (by decide) rfl hW ?_
      refine aw_topi (w := nI W) (hWW.1) ?_
      refine aw_icmp_gtN 47 62 (x + w) (W) dX12_doPart_47 (by decide) rfl rfl (by omega) (by omega) (fun h47 => ?_) (fun h47 => ?_)
      · refine aw_ic0 62 dX12_doPart_62 ?_
        refine aw_zret 63 dX12_doPart_63 rfl (by first | rfl | exact bi_nar | decide) (Nat.zero_le _) (Nat.zero_le _) ?_
        exact ⟨rfl, hW⟩
      · refine aw_iload4 50 dX12_doPart_50 ?_
        refine aw_iload6 52 dX12_doPart_52 ?_
        refine aw_iaddN 54 (y) (h) dX12_doPart_54 rfl rfl ?_
        refine aw_aload0 55 dX12_doPart_55 ?_
        refine rw_gi 56 10 dX12_doPart_56 ckF_RX12_181_12 (by decide) rfl hW ?_
        refine aw_topi (w := nI H) (hHH.1) ?_
        refine aw_icmp_leN 59 64 (y + h) (H) dX12_doPart_59 (by decide) rfl rfl (by omega) (by omega) (fun h59 => ?_) (fun h59 => ?_)
        · exfalso
          omega
        · refine aw_ic0 62 dX12_doPart_62 ?_
          refine aw_zret 63 dX12_doPart_63 rfl (by first | rfl | exact bi_nar | decide) (Nat.zero_le _) (Nat.zero_le _) ?_
          exact ⟨rfl, hW⟩

set_option maxHeartbeats 4000000 in
set_option maxRecDepth 100000 in
theorem b_X12_doPart {τ : TT} {f a0 x y w h W H : Nat} (hf : f = 7 ∨ f = 22) (ha : a0 + 4 < rLen f) (hx : τ f (a0 + 1) = nI x) (hy : τ f (a0 + 2) = nI y) (hw : τ f (a0 + 3) = nI w) (hh : τ f (a0 + 4) = nI h) (h9 : x ≤ 9 ∧ y ≤ 9 ∧ w ≤ 9 ∧ h ≤ 9) (hWW : τ 9 0 = nI W ∧ W ≤ 4) (hHH : τ 10 0 = nI H ∧ H ≤ 4) (hok : 1 ≤ w ∧ 1 ≤ h ∧ x + w ≤ W ∧ y + h ≤ H) (hc : τ f a0 = 98) : RD mX12_doPart rmX12_doPart [.ref (rAd f), .int (nI a0)] τ (some (.int 1)) (tBl τ x y w h) := by
  intro M0 hW0
  refine am_of rfl rfl (ls := [some (.ref 25), some (.ref (rAd f)), some (.int (nI a0)), none, none, none, none, none, none, none]) rfl ?_
  suffices HH : ∀ M, RO τ M0 M → AW mX12_doPart rmX12_doPart (fun r' M' => r' = (some (.int 1)) ∧ RO (tBl τ x y w h) M0 M') 0 [some (.ref 25), some (.ref (rAd f)), some (.int (nI a0)), none, none, none, none, none, none, none] [] M 0 0 from HH M0 ⟨hW0, Off.rf M0⟩
  intro M hW
  have hl300 := rLen_le f
  have hf11 : f ≠ 11 := by omega
  have hm16 := wmul (show w ≤ 4 by omega) (show h ≤ 4 by omega)
  have hmp : 1 ≤ w * h := Nat.mul_pos hok.1 hok.2.1
  refine aw_aload1 0 dX12_doPart_0 ?_
  refine aw_iload2 1 dX12_doPart_1 ?_
  refine aw_ic1 2 dX12_doPart_2 ?_
  refine aw_iaddN 3 (a0) (1) dX12_doPart_3 rfl rfl ?_
  refine rw_ld 4 f (a0 + 1) dX12_doPart_4 hW rfl (show a0 + 1 < rLen f by omega) ?_
  refine aw_topi (w := nI x) (hx) ?_
  refine aw_istore3 5 dX12_doPart_5 rfl ?_
  refine aw_aload1 6 dX12_doPart_6 ?_
  refine aw_iload2 7 dX12_doPart_7 ?_
  refine aw_ic2 8 dX12_doPart_8 ?_
  refine aw_iaddN 9 (a0) (2) dX12_doPart_9 rfl rfl ?_
  refine rw_ld 10 f (a0 + 2) dX12_doPart_10 hW rfl (show a0 + 2 < rLen f by omega) ?_
  refine aw_topi (w := nI y) (hy) ?_
  refine aw_istore4 11 dX12_doPart_11 rfl ?_
  refine aw_aload1 13 dX12_doPart_13 ?_
  refine aw_iload2 14 dX12_doPart_14 ?_
  refine aw_ic3 15 dX12_doPart_15 ?_
  refine aw_iaddN 16 (a0) (3) dX12_doPart_16 rfl rfl ?_
  refine rw_ld 17 f (a0 + 3) dX12_doPart_17 hW rfl (show a0 + 3 < rLen f by omega) ?_
  refine aw_topi (w := nI w) (hw) ?_
  refine aw_istore5 18 dX12_doPart_18 rfl ?_
  refine aw_aload1 20 dX12_doPart_20 ?_
  refine aw_iload2 21 dX12_doPart_21 ?_
  refine aw_ic4 22 dX12_doPart_22 ?_
  refine aw_iaddN 23 (a0) (4) dX12_doPart_23 rfl rfl ?_
  refine rw_ld 24 f (a0 + 4) dX12_doPart_24 hW rfl (show a0 + 4 < rLen f by omega) ?_
  refine aw_topi (w := nI h) (hh) ?_
  refine aw_istore6 25 dX12_doPart_25 rfl ?_
  refine aw_iload5 27 dX12_doPart_27 ?_
  refine aw_ic1 29 dX12_doPart_29 ?_
  refine aw_icmp_ltN 30 62 (w) (1) dX12_doPart_30 (by decide) rfl rfl (by omega) (by omega) (fun h30 => ?_) (fun h30 => ?_)
  · exfalso
    omega
  · refine aw_iload6 33 dX12_doPart_33 ?_
    refine aw_ic1 35 dX12_doPart_35 ?_
    refine aw_icmp_ltN 36 62 (h) (1) dX12_doPart_36 (by decide) rfl rfl (by omega) (by omega) (fun h36 => ?_) (fun h36 => ?_)
    · exfalso
      omega
    · refine aw_iload3 39 dX12_doPart_39 ?_
      refine aw_iload5 40 dX12_doPart_40 ?_
      refine aw_iaddN 42 (x) (w) dX12_doPart_42 rfl rfl ?_
      refine aw_aload0 43 dX12_doPart_43 ?_
      refine rw_gi 44 9 dX12_doPart_44 ckF_RX12_178_12 (by decide) rfl hW ?_
      refine aw_topi (w := nI W) (hWW.1) ?_
      refine aw_icmp_gtN 47 62 (x + w) (W) dX12_doPart_47 (by decide) rfl rfl (by omega) (by omega) (fun h47 => ?_) (fun h47 => ?_)
      · exfalso
        omega
      · refine aw_iload4 50 dX12_doPart_50 ?_
        refine aw_iload6 52 dX12_doPart_52 ?_
        refine aw_iaddN 54 (y) (h) dX12_doPart_54 rfl rfl ?_
        refine aw_aload0 55 dX12_doPart_55 ?_
        refine rw_gi 56 10 dX12_doPart_56 ckF_RX12_181_12 (by decide) rfl hW ?_
        refine aw_topi (w := nI H) (hHH.1) ?_
        refine aw_icmp_leN 59 64 (y + h) (H) dX12_doPart_59 (by decide) rfl rfl (by omega) (by omega) (fun h59 => ?_) (fun h59 => ?_)
        · refine aw_ic0 64 dX12_doPart_64 ?_
          refine aw_istore7 65 dX12_doPart_65 rfl ?_
          refine aw_ic0 67 dX12_doPart_67 ?_
          refine aw_istore8 68 dX12_doPart_68 rfl ?_
          have LP70 : ∀ (dd : Nat) (k : Nat) (M : Mem), w * h - k = dd → (k ≤ w * h) → (RO τ M0 M) → AW mX12_doPart rmX12_doPart (fun r' M' => r' = (some (.int 1)) ∧ RO (tBl τ x y w h) M0 M') 70 [some (.ref 25), some (.ref (rAd f)), some (.int (nI a0)), some (.int (nI x)), some (.int (nI y)), some (.int (nI w)), some (.int (nI h)), some (.int (smH τ x y w k)), some (.int (nI k)), none] [] M 0 0 := by
            intro dd
            induction dd using Nat.strongRecOn with
            | _ dd ih70 =>
              intro k M hdd hk hW
              refine aw_iload8 70 dX12_doPart_70 ?_
              refine aw_iload5 72 dX12_doPart_72 ?_
              refine aw_iload6 74 dX12_doPart_74 ?_
              refine aw_imulN 76 (w) (h) dX12_doPart_76 rfl rfl ?_
              refine aw_icmp_geN 77 114 (k) (w * h) dX12_doPart_77 (by decide) rfl rfl (by omega) (by omega) (fun h77 => ?_) (fun h77 => ?_)
              · have he : k = w * h := by omega
                subst he
                refine aw_ic0 114 dX12_doPart_114 ?_
                refine aw_istore8 115 dX12_doPart_115 rfl ?_
                have LP117 : ∀ (dd : Nat) (k : Nat) (M : Mem) (z : Option Value), w * h - k = dd → (k ≤ w * h) → (RO (blT τ x y w (smH τ x y w (w * h) / nI (w * h)) k) M0 M) → AW mX12_doPart rmX12_doPart (fun r' M' => r' = (some (.int 1)) ∧ RO (tBl τ x y w h) M0 M') 117 [some (.ref 25), some (.ref (rAd f)), some (.int (nI a0)), some (.int (nI x)), some (.int (nI y)), some (.int (nI w)), some (.int (nI h)), some (.int (smH τ x y w (w * h))), some (.int (nI k)), z] [] M 0 0 := by
                  intro dd
                  induction dd using Nat.strongRecOn with
                  | _ dd ih117 =>
                    intro k M z hdd hk hW
                    refine aw_iload8 117 dX12_doPart_117 ?_
                    refine aw_iload5 119 dX12_doPart_119 ?_
                    refine aw_iload6 121 dX12_doPart_121 ?_
                    refine aw_imulN 123 (w) (h) dX12_doPart_123 rfl rfl ?_
                    refine aw_icmp_geN 124 204 (k) (w * h) dX12_doPart_124 (by decide) rfl rfl (by omega) (by omega) (fun h124 => ?_) (fun h124 => ?_)
                    · have he : k = w * h := by omega
                      subst he
                      refine aw_aload0 204 dX12_doPart_204 ?_
                      refine aw_aload1 205 dX12_doPart_205 ?_
                      refine aw_iload2 206 dX12_doPart_206 ?_
                      refine rw_ld 207 f (a0) dX12_doPart_207 hW rfl (show a0 < rLen f by omega) ?_
                      refine aw_topi (w := 98) (by rw [blT_ne hf11]; exact hc) ?_
                      refine aw_bipush 208 98 dX12_doPart_208 (by decide) ?_
                      refine aw_icmp_neN 210 220 (98) (98) dX12_doPart_210 (by decide) rfl rfl (by decide) (by decide) (fun h => absurd h (by decide)) (fun _ => ?_)
                      refine aw_aload0 213 dX12_doPart_213 ?_
                      refine rw_gi 214 9 dX12_doPart_214 ckF_RX12_178_12 (by decide) rfl hW ?_
                      refine aw_goto 217 222 dX12_doPart_217 (by decide) ?_
                      refine rw_pi 222 9 dX12_doPart_222 ckF_RX12_178_12 ckP12_9 rfl (by decide) rfl hW (fun M hW => ?_)
                      replace hW := ro_eq hW tu_same
                      refine aw_aload0 225 dX12_doPart_225 ?_
                      refine aw_aload1 226 dX12_doPart_226 ?_
                      refine aw_iload2 227 dX12_doPart_227 ?_
                      refine rw_ld 228 f (a0) dX12_doPart_228 hW rfl (show a0 < rLen f by omega) ?_
                      refine aw_topi (w := 98) (by rw [blT_ne hf11]; exact hc) ?_
                      refine aw_bipush 229 98 dX12_doPart_229 (by decide) ?_
                      refine aw_icmp_neN 231 241 (98) (98) dX12_doPart_231 (by decide) rfl rfl (by decide) (by decide) (fun h => absurd h (by decide)) (fun _ => ?_)
                      refine aw_aload0 234 dX12_doPart_234 ?_
                      refine rw_gi 235 10 dX12_doPart_235 ckF_RX12_181_12 (by decide) rfl hW ?_
                      refine aw_goto 238 243 dX12_doPart_238 (by decide) ?_
                      refine rw_pi 243 10 dX12_doPart_243 ckF_RX12_181_12 ckP12_10 rfl (by decide) rfl hW (fun M hW => ?_)
                      replace hW := ro_eq hW tu_same
                      refine aw_ic1 246 dX12_doPart_246 ?_
                      refine aw_zret 247 dX12_doPart_247 rfl (by first | rfl | exact bi_nar | decide) (Nat.zero_le _) (Nat.zero_le _) ?_
                      exact ⟨rfl, hW⟩
                    · have hq2 : k / w < h := Nat.div_lt_of_lt_mul h124
                      have hq3 : k % w < w := Nat.mod_lt _ (by omega)
                      refine aw_iload3 127 dX12_doPart_127 ?_
                      refine aw_iload8 128 dX12_doPart_128 ?_
                      refine aw_iload5 130 dX12_doPart_130 ?_
                      refine aw_iremN 132 (k) (w) dX12_doPart_132 rfl rfl (by omega) (by omega) (by omega) ?_
                      refine aw_iaddN 133 (x) (k % w) dX12_doPart_133 rfl rfl ?_
                      refine aw_ic4 134 dX12_doPart_134 ?_
                      refine aw_iload4 135 dX12_doPart_135 ?_
                      refine aw_iload8 137 dX12_doPart_137 ?_
                      refine aw_iload5 139 dX12_doPart_139 ?_
                      refine aw_idivN 141 (k) (w) dX12_doPart_141 rfl rfl (by omega) (by omega) (by omega) ?_
                      refine aw_iaddN 142 (y) (k / w) dX12_doPart_142 rfl rfl ?_
                      refine aw_imulN 143 (4) (y + (k / w)) dX12_doPart_143 rfl rfl ?_
                      refine aw_iaddN 144 (x + (k % w)) (4 * (y + (k / w))) dX12_doPart_144 rfl rfl ?_
                      refine aw_istore9 145 dX12_doPart_145 rfl ?_
                      refine aw_aload1 147 dX12_doPart_147 ?_
                      refine aw_iload2 148 dX12_doPart_148 ?_
                      refine rw_ld 149 f (a0) dX12_doPart_149 hW rfl (show a0 < rLen f by omega) ?_
                      refine aw_topi (w := 98) (by rw [blT_ne hf11]; exact hc) ?_
                      refine aw_bipush 150 98 dX12_doPart_150 (by decide) ?_
                      refine aw_icmp_neN 152 173 (98) (98) dX12_doPart_152 (by decide) rfl rfl (by decide) (by decide) (fun h => absurd h (by decide)) (fun _ => ?_)
                      refine aw_aload0 155 dX12_doPart_155 ?_
                      refine rw_ga 156 11 dX12_doPart_156 ckF_RX12_25_12 (by decide) (by decide) hW ?_
                      refine aw_iload9 159 dX12_doPart_159 ?_
                      refine aw_iload7 161 dX12_doPart_161 ?_
                      refine aw_iload5 163 dX12_doPart_163 ?_
                      refine aw_iload6 165 dX12_doPart_165 ?_
                      refine aw_imulN 167 (w) (h) dX12_doPart_167 rfl rfl ?_
                      refine aw_idiv 168 dX12_doPart_168 (nI_ne0 (by omega) (by omega)) ?_
                      refine rw_st 169 11 ((x + (k % w)) + (4 * (y + (k / w)))) dX12_doPart_169 hW rfl (show (x + (k % w)) + (4 * (y + (k / w))) < 16 by omega) (fun M hW => ?_)
                      refine aw_goto 170 198 dX12_doPart_170 (by decide) ?_
                      refine aw_iinc8 198 (nI (k + 1)) dX12_doPart_198 (nI_1 _) rfl ?_
                      refine aw_goto 201 117 dX12_doPart_201 (by decide) ?_
                      exact ih117 _ (by omega) (k + 1) M _ rfl (by omega) hW
                exact LP117 _ 0 M _ rfl (Nat.zero_le _) hW
              · have hq2 : k / w < h := Nat.div_lt_of_lt_mul h77
                have hq3 : k % w < w := Nat.mod_lt _ (by omega)
                refine aw_iload7 80 dX12_doPart_80 ?_
                refine aw_aload0 82 dX12_doPart_82 ?_
                refine rw_ga 83 11 dX12_doPart_83 ckF_RX12_25_12 (by decide) (by decide) hW ?_
                refine aw_iload3 86 dX12_doPart_86 ?_
                refine aw_iload8 87 dX12_doPart_87 ?_
                refine aw_iload5 89 dX12_doPart_89 ?_
                refine aw_iremN 91 (k) (w) dX12_doPart_91 rfl rfl (by omega) (by omega) (by omega) ?_
                refine aw_iaddN 92 (x) (k % w) dX12_doPart_92 rfl rfl ?_
                refine aw_ic4 93 dX12_doPart_93 ?_
                refine aw_iload4 94 dX12_doPart_94 ?_
                refine aw_iload8 96 dX12_doPart_96 ?_
                refine aw_iload5 98 dX12_doPart_98 ?_
                refine aw_idivN 100 (k) (w) dX12_doPart_100 rfl rfl (by omega) (by omega) (by omega) ?_
                refine aw_iaddN 101 (y) (k / w) dX12_doPart_101 rfl rfl ?_
                refine aw_imulN 102 (4) (y + (k / w)) dX12_doPart_102 rfl rfl ?_
                refine aw_iaddN 103 (x + (k % w)) (4 * (y + (k / w))) dX12_doPart_103 rfl rfl ?_
                refine rw_ld 104 11 ((x + (k % w)) + (4 * (y + (k / w)))) dX12_doPart_104 hW rfl (show (x + (k % w)) + (4 * (y + (k / w))) < 16 by omega) ?_
                refine aw_iadd 105 dX12_doPart_105 ?_
                refine aw_istore7 106 dX12_doPart_106 rfl ?_
                refine aw_iinc8 108 (nI (k + 1)) dX12_doPart_108 (nI_1 _) rfl ?_
                refine aw_goto 111 70 dX12_doPart_111 (by decide) ?_
                exact ih70 _ (by omega) (k + 1) M rfl (by omega) hW
          exact LP70 _ 0 M rfl (Nat.zero_le _) hW
        · exfalso
          omega

set_option maxHeartbeats 4000000 in
set_option maxRecDepth 100000 in
theorem c_X12_doPart {τ : TT} {f a0 x y w h W H : Nat} (hf : f = 7 ∨ f = 22) (ha : a0 + 4 < rLen f) (hx : τ f (a0 + 1) = nI x) (hy : τ f (a0 + 2) = nI y) (hw : τ f (a0 + 3) = nI w) (hh : τ f (a0 + 4) = nI h) (h9 : x ≤ 9 ∧ y ≤ 9 ∧ w ≤ 9 ∧ h ≤ 9) (hWW : τ 9 0 = nI W ∧ W ≤ 4) (hHH : τ 10 0 = nI H ∧ H ≤ 4) (hok : 1 ≤ w ∧ 1 ≤ h ∧ x + w ≤ W ∧ y + h ≤ H) (hc : τ f a0 = 99) : RD mX12_doPart rmX12_doPart [.ref (rAd f), .int (nI a0)] τ (some (.int 1)) (tCt τ x y w h) := by
  intro M0 hW0
  refine am_of rfl rfl (ls := [some (.ref 25), some (.ref (rAd f)), some (.int (nI a0)), none, none, none, none, none, none, none]) rfl ?_
  suffices HH : ∀ M, RO τ M0 M → AW mX12_doPart rmX12_doPart (fun r' M' => r' = (some (.int 1)) ∧ RO (tCt τ x y w h) M0 M') 0 [some (.ref 25), some (.ref (rAd f)), some (.int (nI a0)), none, none, none, none, none, none, none] [] M 0 0 from HH M0 ⟨hW0, Off.rf M0⟩
  intro M hW
  have hl300 := rLen_le f
  have hf11 : f ≠ 11 := by omega
  have hm16 := wmul (show w ≤ 4 by omega) (show h ≤ 4 by omega)
  have hmp : 1 ≤ w * h := Nat.mul_pos hok.1 hok.2.1
  refine aw_aload1 0 dX12_doPart_0 ?_
  refine aw_iload2 1 dX12_doPart_1 ?_
  refine aw_ic1 2 dX12_doPart_2 ?_
  refine aw_iaddN 3 (a0) (1) dX12_doPart_3 rfl rfl ?_
  refine rw_ld 4 f (a0 + 1) dX12_doPart_4 hW rfl (show a0 + 1 < rLen f by omega) ?_
  refine aw_topi (w := nI x) (hx) ?_
  refine aw_istore3 5 dX12_doPart_5 rfl ?_
  refine aw_aload1 6 dX12_doPart_6 ?_
  refine aw_iload2 7 dX12_doPart_7 ?_
  refine aw_ic2 8 dX12_doPart_8 ?_
  refine aw_iaddN 9 (a0) (2) dX12_doPart_9 rfl rfl ?_
  refine rw_ld 10 f (a0 + 2) dX12_doPart_10 hW rfl (show a0 + 2 < rLen f by omega) ?_
  refine aw_topi (w := nI y) (hy) ?_
  refine aw_istore4 11 dX12_doPart_11 rfl ?_
  refine aw_aload1 13 dX12_doPart_13 ?_
  refine aw_iload2 14 dX12_doPart_14 ?_
  refine aw_ic3 15 dX12_doPart_15 ?_
  refine aw_iaddN 16 (a0) (3) dX12_doPart_16 rfl rfl ?_
  refine rw_ld 17 f (a0 + 3) dX12_doPart_17 hW rfl (show a0 + 3 < rLen f by omega) ?_
  refine aw_topi (w := nI w) (hw) ?_
  refine aw_istore5 18 dX12_doPart_18 rfl ?_
  refine aw_aload1 20 dX12_doPart_20 ?_
  refine aw_iload2 21 dX12_doPart_21 ?_
  refine aw_ic4 22 dX12_doPart_22 ?_
  refine aw_iaddN 23 (a0) (4) dX12_doPart_23 rfl rfl ?_
  refine rw_ld 24 f (a0 + 4) dX12_doPart_24 hW rfl (show a0 + 4 < rLen f by omega) ?_
  refine aw_topi (w := nI h) (hh) ?_
  refine aw_istore6 25 dX12_doPart_25 rfl ?_
  refine aw_iload5 27 dX12_doPart_27 ?_
  refine aw_ic1 29 dX12_doPart_29 ?_
  refine aw_icmp_ltN 30 62 (w) (1) dX12_doPart_30 (by decide) rfl rfl (by omega) (by omega) (fun h30 => ?_) (fun h30 => ?_)
  · exfalso
    omega
  · refine aw_iload6 33 dX12_doPart_33 ?_
    refine aw_ic1 35 dX12_doPart_35 ?_
    refine aw_icmp_ltN 36 62 (h) (1) dX12_doPart_36 (by decide) rfl rfl (by omega) (by omega) (fun h36 => ?_) (fun h36 => ?_)
    · exfalso
      omega
    · refine aw_iload3 39 dX12_doPart_39 ?_
      refine aw_iload5 40 dX12_doPart_40 ?_
      refine aw_iaddN 42 (x) (w) dX12_doPart_42 rfl rfl ?_
      refine aw_aload0 43 dX12_doPart_43 ?_
      refine rw_gi 44 9 dX12_doPart_44 ckF_RX12_178_12 (by decide) rfl hW ?_
      refine aw_topi (w := nI W) (hWW.1) ?_
      refine aw_icmp_gtN 47 62 (x + w) (W) dX12_doPart_47 (by decide) rfl rfl (by omega) (by omega) (fun h47 => ?_) (fun h47 => ?_)
      · exfalso
        omega
      · refine aw_iload4 50 dX12_doPart_50 ?_
        refine aw_iload6 52 dX12_doPart_52 ?_
        refine aw_iaddN 54 (y) (h) dX12_doPart_54 rfl rfl ?_
        refine aw_aload0 55 dX12_doPart_55 ?_
        refine rw_gi 56 10 dX12_doPart_56 ckF_RX12_181_12 (by decide) rfl hW ?_
        refine aw_topi (w := nI H) (hHH.1) ?_
        refine aw_icmp_leN 59 64 (y + h) (H) dX12_doPart_59 (by decide) rfl rfl (by omega) (by omega) (fun h59 => ?_) (fun h59 => ?_)
        · refine aw_ic0 64 dX12_doPart_64 ?_
          refine aw_istore7 65 dX12_doPart_65 rfl ?_
          refine aw_ic0 67 dX12_doPart_67 ?_
          refine aw_istore8 68 dX12_doPart_68 rfl ?_
          have LP70 : ∀ (dd : Nat) (k : Nat) (M : Mem), w * h - k = dd → (k ≤ w * h) → (RO τ M0 M) → AW mX12_doPart rmX12_doPart (fun r' M' => r' = (some (.int 1)) ∧ RO (tCt τ x y w h) M0 M') 70 [some (.ref 25), some (.ref (rAd f)), some (.int (nI a0)), some (.int (nI x)), some (.int (nI y)), some (.int (nI w)), some (.int (nI h)), some (.int (smH τ x y w k)), some (.int (nI k)), none] [] M 0 0 := by
            intro dd
            induction dd using Nat.strongRecOn with
            | _ dd ih70 =>
              intro k M hdd hk hW
              refine aw_iload8 70 dX12_doPart_70 ?_
              refine aw_iload5 72 dX12_doPart_72 ?_
              refine aw_iload6 74 dX12_doPart_74 ?_
              refine aw_imulN 76 (w) (h) dX12_doPart_76 rfl rfl ?_
              refine aw_icmp_geN 77 114 (k) (w * h) dX12_doPart_77 (by decide) rfl rfl (by omega) (by omega) (fun h77 => ?_) (fun h77 => ?_)
              · have he : k = w * h := by omega
                subst he
                refine aw_ic0 114 dX12_doPart_114 ?_
                refine aw_istore8 115 dX12_doPart_115 rfl ?_
                have LP117 : ∀ (dd : Nat) (k : Nat) (M : Mem) (z : Option Value), w * h - k = dd → (k ≤ w * h) → (RO (ctT τ x y w k) M0 M) → AW mX12_doPart rmX12_doPart (fun r' M' => r' = (some (.int 1)) ∧ RO (tCt τ x y w h) M0 M') 117 [some (.ref 25), some (.ref (rAd f)), some (.int (nI a0)), some (.int (nI x)), some (.int (nI y)), some (.int (nI w)), some (.int (nI h)), some (.int (smH τ x y w (w * h))), some (.int (nI k)), z] [] M 0 0 := by
                  intro dd
                  induction dd using Nat.strongRecOn with
                  | _ dd ih117 =>
                    intro k M z hdd hk hW
                    refine aw_iload8 117 dX12_doPart_117 ?_
                    refine aw_iload5 119 dX12_doPart_119 ?_
                    refine aw_iload6 121 dX12_doPart_121 ?_
                    refine aw_imulN 123 (w) (h) dX12_doPart_123 rfl rfl ?_
                    refine aw_icmp_geN 124 204 (k) (w * h) dX12_doPart_124 (by decide) rfl rfl (by omega) (by omega) (fun h124 => ?_) (fun h124 => ?_)
                    · have he : k = w * h := by omega
                      subst he
                      refine aw_aload0 204 dX12_doPart_204 ?_
                      refine aw_aload1 205 dX12_doPart_205 ?_
                      refine aw_iload2 206 dX12_doPart_206 ?_
                      refine rw_ld 207 f (a0) dX12_doPart_207 hW rfl (show a0 < rLen f by omega) ?_
                      refine aw_topi (w := 99) (by rw [ctT_ne hf11]; exact hc) ?_
                      refine aw_bipush 208 98 dX12_doPart_208 (by decide) ?_
                      refine aw_icmp_neN 210 220 (99) (98) dX12_doPart_210 (by decide) rfl rfl (by decide) (by decide) (fun _ => ?_) (fun h => absurd h (by decide))
                      refine aw_iload5 220 dX12_doPart_220 ?_
                      refine rw_pi 222 9 dX12_doPart_222 ckF_RX12_178_12 ckP12_9 rfl (by decide) rfl hW (fun M hW => ?_)
                      refine aw_aload0 225 dX12_doPart_225 ?_
                      refine aw_aload1 226 dX12_doPart_226 ?_
                      refine aw_iload2 227 dX12_doPart_227 ?_
                      refine rw_ld 228 f (a0) dX12_doPart_228 hW rfl (show a0 < rLen f by omega) ?_
                      refine aw_topi (w := 99) (by rw [tu_ne (by omega), ctT_ne hf11]; exact hc) ?_
                      refine aw_bipush 229 98 dX12_doPart_229 (by decide) ?_
                      refine aw_icmp_neN 231 241 (99) (98) dX12_doPart_231 (by decide) rfl rfl (by decide) (by decide) (fun _ => ?_) (fun h => absurd h (by decide))
                      refine aw_iload6 241 dX12_doPart_241 ?_
                      refine rw_pi 243 10 dX12_doPart_243 ckF_RX12_181_12 ckP12_10 rfl (by decide) rfl hW (fun M hW => ?_)
                      refine aw_ic1 246 dX12_doPart_246 ?_
                      refine aw_zret 247 dX12_doPart_247 rfl (by first | rfl | exact bi_nar | decide) (Nat.zero_le _) (Nat.zero_le _) ?_
                      exact ⟨rfl, hW⟩
                    · have hq2 : k / w < h := Nat.div_lt_of_lt_mul h124
                      have hq3 : k % w < w := Nat.mod_lt _ (by omega)
                      refine aw_iload3 127 dX12_doPart_127 ?_
                      refine aw_iload8 128 dX12_doPart_128 ?_
                      refine aw_iload5 130 dX12_doPart_130 ?_
                      refine aw_iremN 132 (k) (w) dX12_doPart_132 rfl rfl (by omega) (by omega) (by omega) ?_
                      refine aw_iaddN 133 (x) (k % w) dX12_doPart_133 rfl rfl ?_
                      refine aw_ic4 134 dX12_doPart_134 ?_
                      refine aw_iload4 135 dX12_doPart_135 ?_
                      refine aw_iload8 137 dX12_doPart_137 ?_
                      refine aw_iload5 139 dX12_doPart_139 ?_
                      refine aw_idivN 141 (k) (w) dX12_doPart_141 rfl rfl (by omega) (by omega) (by omega) ?_
                      refine aw_iaddN 142 (y) (k / w) dX12_doPart_142 rfl rfl ?_
                      refine aw_imulN 143 (4) (y + (k / w)) dX12_doPart_143 rfl rfl ?_
                      refine aw_iaddN 144 (x + (k % w)) (4 * (y + (k / w))) dX12_doPart_144 rfl rfl ?_
                      refine aw_istore9 145 dX12_doPart_145 rfl ?_
                      refine aw_aload1 147 dX12_doPart_147 ?_
                      refine aw_iload2 148 dX12_doPart_148 ?_
                      refine rw_ld 149 f (a0) dX12_doPart_149 hW rfl (show a0 < rLen f by omega) ?_
                      refine aw_topi (w := 99) (by rw [ctT_ne hf11]; exact hc) ?_
                      refine aw_bipush 150 98 dX12_doPart_150 (by decide) ?_
                      refine aw_icmp_neN 152 173 (99) (98) dX12_doPart_152 (by decide) rfl rfl (by decide) (by decide) (fun _ => ?_) (fun h => absurd h (by decide))
                      refine aw_aload0 173 dX12_doPart_173 ?_
                      refine rw_ga 174 11 dX12_doPart_174 ckF_RX12_25_12 (by decide) (by decide) hW ?_
                      refine aw_iload8 177 dX12_doPart_177 ?_
                      refine aw_iload5 179 dX12_doPart_179 ?_
                      refine aw_iremN 181 (k) (w) dX12_doPart_181 rfl rfl (by omega) (by omega) (by omega) ?_
                      refine aw_ic4 182 dX12_doPart_182 ?_
                      refine aw_iload8 183 dX12_doPart_183 ?_
                      refine aw_iload5 185 dX12_doPart_185 ?_
                      refine aw_idivN 187 (k) (w) dX12_doPart_187 rfl rfl (by omega) (by omega) (by omega) ?_
                      refine aw_imulN 188 (4) (k / w) dX12_doPart_188 rfl rfl ?_
                      refine aw_iaddN 189 (k % w) (4 * (k / w)) dX12_doPart_189 rfl rfl ?_
                      refine aw_aload0 190 dX12_doPart_190 ?_
                      refine rw_ga 191 11 dX12_doPart_191 ckF_RX12_25_12 (by decide) (by decide) hW ?_
                      refine aw_iload9 194 dX12_doPart_194 ?_
                      refine rw_ld 196 11 ((x + (k % w)) + (4 * (y + (k / w)))) dX12_doPart_196 hW rfl (show (x + (k % w)) + (4 * (y + (k / w))) < 16 by omega) ?_
                      refine rw_st 197 11 ((k % w) + (4 * (k / w))) dX12_doPart_197 hW rfl (show (k % w) + (4 * (k / w)) < 16 by omega) (fun M hW => ?_)
                      refine aw_iinc8 198 (nI (k + 1)) dX12_doPart_198 (nI_1 _) rfl ?_
                      refine aw_goto 201 117 dX12_doPart_201 (by decide) ?_
                      exact ih117 _ (by omega) (k + 1) M _ rfl (by omega) hW
                exact LP117 _ 0 M _ rfl (Nat.zero_le _) hW
              · have hq2 : k / w < h := Nat.div_lt_of_lt_mul h77
                have hq3 : k % w < w := Nat.mod_lt _ (by omega)
                refine aw_iload7 80 dX12_doPart_80 ?_
                refine aw_aload0 82 dX12_doPart_82 ?_
                refine rw_ga 83 11 dX12_doPart_83 ckF_RX12_25_12 (by decide) (by decide) hW ?_
                refine aw_iload3 86 dX12_doPart_86 ?_
                refine aw_iload8 87 dX12_doPart_87 ?_
                refine aw_iload5 89 dX12_doPart_89 ?_
                refine aw_iremN 91 (k) (w) dX12_doPart_91 rfl rfl (by omega) (by omega) (by omega) ?_
                refine aw_iaddN 92 (x) (k % w) dX12_doPart_92 rfl rfl ?_
                refine aw_ic4 93 dX12_doPart_93 ?_
                refine aw_iload4 94 dX12_doPart_94 ?_
                refine aw_iload8 96 dX12_doPart_96 ?_
                refine aw_iload5 98 dX12_doPart_98 ?_
                refine aw_idivN 100 (k) (w) dX12_doPart_100 rfl rfl (by omega) (by omega) (by omega) ?_
                refine aw_iaddN 101 (y) (k / w) dX12_doPart_101 rfl rfl ?_
                refine aw_imulN 102 (4) (y + (k / w)) dX12_doPart_102 rfl rfl ?_
                refine aw_iaddN 103 (x + (k % w)) (4 * (y + (k / w))) dX12_doPart_103 rfl rfl ?_
                refine rw_ld 104 11 ((x + (k % w)) + (4 * (y + (k / w)))) dX12_doPart_104 hW rfl (show (x + (k % w)) + (4 * (y + (k / w))) < 16 by omega) ?_
                refine aw_iadd 105 dX12_doPart_105 ?_
                refine aw_istore7 106 dX12_doPart_106 rfl ?_
                refine aw_iinc8 108 (nI (k + 1)) dX12_doPart_108 (nI_1 _) rfl ?_
                refine aw_goto 111 70 dX12_doPart_111 (by decide) ?_
                exact ih70 _ (by omega) (k + 1) M rfl (by omega) hW
          exact LP70 _ 0 M rfl (Nat.zero_le _) hW
        · exfalso
          omega

def trT (τ : TT) (w H : Nat) : Nat → TT
  | 0 => ov τ 12 0 16 (fun b => τ 11 b)
  | k + 1 => tu (trT τ w H k) 11 (dPl w k) (τ 11 (k / w + 4 * (H - 1 - k % w)))
theorem trT_ne {τ : TT} {w H k i : Nat} (h : i ≠ 11) (h2 : i ≠ 12) : trT τ w H k i = τ i := by
  induction k with
  | zero => exact ov_ne h2
  | succ k ih => show tu _ _ _ _ i = _; rw [tu_ne h, ih]
theorem trT_12 {τ : TT} {w H k b : Nat} (hb : b < 16) : trT τ w H k 12 b = τ 11 b := by
  induction k with
  | zero => exact ov_in ⟨Nat.zero_le _, hb⟩
  | succ k ih => show tu _ _ _ _ 12 b = _; rw [tu_ne (by decide), ih]
def tTr (τ : TT) (W H : Nat) : TT := tu (tu (trT τ H H (H * W)) 9 0 (nI H)) 10 0 (nI W)

def rmX12_turn : Room := { frames := 0, cells := 0, slots := 0, locals := 0 }
set_option maxHeartbeats 4000000 in
set_option maxRecDepth 100000 in
theorem c_X12_turn {τ : TT} {W H : Nat} (hWW : τ 9 0 = nI W ∧ 1 ≤ W ∧ W ≤ 4) (hHH : τ 10 0 = nI H ∧ 1 ≤ H ∧ H ≤ 4) : RD mX12_turn rmX12_turn [] τ (none) (tTr τ W H) := by
  intro M0 hW0
  refine am_of rfl rfl (ls := [some (.ref 25), none, none, none, none, none]) rfl ?_
  suffices HH : ∀ M, RO τ M0 M → AW mX12_turn rmX12_turn (fun r' M' => r' = (none) ∧ RO (tTr τ W H) M0 M') 0 [some (.ref 25), none, none, none, none, none] [] M 0 0 from HH M0 ⟨hW0, Off.rf M0⟩
  intro M hW
  have hm16 := wmul hHH.2.2 hWW.2.2
  refine aw_ic0 0 dX12_turn_0 ?_
  refine aw_istore1 1 dX12_turn_1 rfl ?_
  have LP2 : ∀ (dd : Nat) (k : Nat) (M : Mem), 16 - k = dd → (k ≤ 16) → (RO (ov τ 12 0 k (fun b => τ 11 b)) M0 M) → AW mX12_turn rmX12_turn (fun r' M' => r' = (none) ∧ RO (tTr τ W H) M0 M') 2 [some (.ref 25), some (.int (nI k)), none, none, none, none] [] M 0 0 := by
    intro dd
    induction dd using Nat.strongRecOn with
    | _ dd ih2 =>
      intro k M hdd hk hW
      refine aw_iload1 2 dX12_turn_2 ?_
      refine aw_bipush 3 16 dX12_turn_3 (by decide) ?_
      refine aw_icmp_geN 5 26 (k) (16) dX12_turn_5 (by decide) rfl rfl (by omega) (by omega) (fun h5 => ?_) (fun h5 => ?_)
      · have he : k = 16 := by omega
        subst he
        refine aw_aload0 26 dX12_turn_26 ?_
        refine rw_gi 27 10 dX12_turn_27 ckF_RX12_181_12 (by decide) rfl hW ?_
        refine aw_topi (w := nI H) (by rw [ov_ne (by decide)]; exact hHH.1) ?_
        refine aw_istore1 30 dX12_turn_30 rfl ?_
        refine aw_aload0 31 dX12_turn_31 ?_
        refine rw_gi 32 9 dX12_turn_32 ckF_RX12_178_12 (by decide) rfl hW ?_
        refine aw_topi (w := nI W) (by rw [ov_ne (by decide)]; exact hWW.1) ?_
        refine aw_istore2 35 dX12_turn_35 rfl ?_
        refine aw_ic0 36 dX12_turn_36 ?_
        refine aw_istore3 37 dX12_turn_37 rfl ?_
        have LP38 : ∀ (dd : Nat) (k : Nat) (M : Mem) (z y : Option Value), H * W - k = dd → (k ≤ H * W) → (prevB z = true) → (RO (trT τ H H k) M0 M) → AW mX12_turn rmX12_turn (fun r' M' => r' = (none) ∧ RO (tTr τ W H) M0 M') 38 [some (.ref 25), some (.int (nI H)), some (.int (nI W)), some (.int (nI k)), z, y] [] M 0 0 := by
          intro dd
          induction dd using Nat.strongRecOn with
          | _ dd ih38 =>
            intro k M z y hdd hk hzy hW
            refine aw_iload3 38 dX12_turn_38 ?_
            refine aw_iload1 39 dX12_turn_39 ?_
            refine aw_iload2 40 dX12_turn_40 ?_
            refine aw_imulN 41 (H) (W) dX12_turn_41 rfl rfl ?_
            refine aw_icmp_geN 42 92 (k) (H * W) dX12_turn_42 (by decide) rfl rfl (by omega) (by omega) (fun h42 => ?_) (fun h42 => ?_)
            · have he : k = H * W := by omega
              subst he
              refine aw_aload0 92 dX12_turn_92 ?_
              refine aw_iload1 93 dX12_turn_93 ?_
              refine rw_pi 94 9 dX12_turn_94 ckF_RX12_178_12 ckP12_9 rfl (by decide) rfl hW (fun M hW => ?_)
              refine aw_aload0 97 dX12_turn_97 ?_
              refine aw_iload2 98 dX12_turn_98 ?_
              refine rw_pi 99 10 dX12_turn_99 ckF_RX12_181_12 ckP12_10 rfl (by decide) rfl hW (fun M hW => ?_)
              refine aw_vret 102 dX12_turn_102 rfl (Nat.zero_le _) (Nat.zero_le _) ?_
              exact ⟨rfl, hW⟩
            · have hq2 : k / H < W := Nat.div_lt_of_lt_mul h42
              have hq3 : k % H < H := Nat.mod_lt _ (by omega)
              refine aw_iload3 45 dX12_turn_45 ?_
              refine aw_iload1 46 dX12_turn_46 ?_
              refine aw_iremN 47 (k) (H) dX12_turn_47 rfl rfl (by omega) (by omega) (by omega) ?_
              refine aw_istore4 48 dX12_turn_48 rfl ?_
              refine aw_iload3 50 dX12_turn_50 ?_
              refine aw_iload1 51 dX12_turn_51 ?_
              refine aw_idivN 52 (k) (H) dX12_turn_52 rfl rfl (by omega) (by omega) (by omega) ?_
              refine aw_istore5 53 dX12_turn_53 rfl ?_
              refine aw_aload0 55 dX12_turn_55 ?_
              refine rw_ga 56 11 dX12_turn_56 ckF_RX12_25_12 (by decide) (by decide) hW ?_
              refine aw_iload4 59 dX12_turn_59 ?_
              refine aw_ic4 61 dX12_turn_61 ?_
              refine aw_iload5 62 dX12_turn_62 ?_
              refine aw_imulN 64 (4) (k / H) dX12_turn_64 rfl rfl ?_
              refine aw_iaddN 65 (k % H) (4 * (k / H)) dX12_turn_65 rfl rfl ?_
              refine aw_aload0 66 dX12_turn_66 ?_
              refine rw_ga 67 12 dX12_turn_67 ckF_RX12_28_12 (by decide) (by decide) hW ?_
              refine aw_iload5 70 dX12_turn_70 ?_
              refine aw_ic4 72 dX12_turn_72 ?_
              refine aw_aload0 73 dX12_turn_73 ?_
              refine rw_gi 74 10 dX12_turn_74 ckF_RX12_181_12 (by decide) rfl hW ?_
              refine aw_topi (w := nI H) (by rw [trT_ne (by decide) (by decide)]; exact hHH.1) ?_
              refine aw_ic1 77 dX12_turn_77 ?_
              refine aw_isubN 78 (H) (1) dX12_turn_78 rfl rfl (by omega) ?_
              refine aw_iload4 79 dX12_turn_79 ?_
              refine aw_isubN 81 (H - 1) (k % H) dX12_turn_81 rfl rfl (by omega) ?_
              refine aw_imulN 82 (4) ((H - 1) - (k % H)) dX12_turn_82 rfl rfl ?_
              refine aw_iaddN 83 (k / H) (4 * ((H - 1) - (k % H))) dX12_turn_83 rfl rfl ?_
              refine rw_ld 84 12 ((k / H) + (4 * ((H - 1) - (k % H)))) dX12_turn_84 hW rfl (show (k / H) + (4 * ((H - 1) - (k % H))) < 16 by omega) ?_
              refine aw_topi (trT_12 (by omega)) ?_
              refine rw_st 85 11 ((k % H) + (4 * (k / H))) dX12_turn_85 hW rfl (show (k % H) + (4 * (k / H)) < 16 by omega) (fun M hW => ?_)
              refine aw_iinc3 86 (nI (k + 1)) dX12_turn_86 (nI_1 _) rfl ?_
              refine aw_goto 89 38 dX12_turn_89 (by decide) ?_
              exact ih38 _ (by omega) (k + 1) M _ _ rfl (by omega) rfl hW
        exact LP38 _ 0 M _ _ rfl (Nat.zero_le _) rfl hW
      · refine aw_aload0 8 dX12_turn_8 ?_
        refine rw_ga 9 12 dX12_turn_9 ckF_RX12_28_12 (by decide) (by decide) hW ?_
        refine aw_iload1 12 dX12_turn_12 ?_
        refine aw_aload0 13 dX12_turn_13 ?_
        refine rw_ga 14 11 dX12_turn_14 ckF_RX12_25_12 (by decide) (by decide) hW ?_
        refine aw_iload1 17 dX12_turn_17 ?_
        refine rw_ld 18 11 (k) dX12_turn_18 hW rfl (show k < 16 by omega) ?_
        refine aw_topi (show _ = τ 11 k by rw [ov_ne (by decide)]) ?_
        refine rw_st 19 12 (k) dX12_turn_19 hW rfl (show k < 16 by omega) (fun M hW => ?_)
        replace hW := ro_eq hW (ov_up (f := fun b => τ 11 b) (by omega) rfl)
        refine aw_iinc1 20 (nI (k + 1)) dX12_turn_20 (nI_1 _) rfl ?_
        refine aw_goto 23 2 dX12_turn_23 (by decide) ?_
        exact ih2 _ (by omega) (k + 1) M rfl (by omega) hW
  exact LP2 _ 0 M rfl (by omega) (ro_eq hW ov_nil.symm)

