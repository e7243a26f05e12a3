/-! the reference: falsely (rows laid by gen/ref9.py) -/
/-- the loop of share: what it leaves, and whether it ends within so many turns -/
def gcl : Nat → Int64 → Int64 → Int64
  | 0, x, _ => x
  | f + 1, x, y => if y = 0 then x else gcl f y (x - x / y * y)
def gce : Nat → Int64 → Int64 → Bool
  | 0, _, y => y == 0
  | f + 1, x, y => if y = 0 then true else gce f y (x - x / y * y)
theorem lc_eq {x y : Int64} : lg_cmp x y = 0 ↔ x = y := by
  unfold lg_cmp
  by_cases h1 : x > y
  · rw [if_pos h1]
    refine ⟨fun h => absurd h (by decide), fun h => ?_⟩
    subst h
    exact absurd h1 (Int64.lt_irrefl)
  · rw [if_neg h1]
    by_cases h2 : x = y
    · simp [h2]
    · rw [if_neg h2]
      exact ⟨fun h => absurd h (by decide), fun h => absurd h h2⟩


def rmX12_share : Room := { frames := 0, cells := 0, slots := 0, locals := 0 }
set_option maxHeartbeats 4000000 in
set_option maxRecDepth 100000 in
theorem c_share_loop {a b : Int64} {w : Int32} {M : Mem} (g : Int64) : ∀ (f : Nat) (x y : Int64) (z : Option Value), gce f x y = true → gcl f x y = g → ¬ g = 0 → AW mX12_share rmX12_share (fun r' M' => r' = (some (.long ((if w = 0 then a else b) / g))) ∧ M' = M) 6 [some (.long a), none, some (.long b), none, some (.int w), some (.long x), none, some (.long y), none, z, none] [] M 0 0 := by
  intro f
  induction f with
  | zero =>
    intro x y z he hg hz
    have hy : y = 0 := by simpa [gce] using he
    have hx : x = g := hg
    subst hx hy
    refine aw_lload7 6 dX12_share_6 ?_
    refine aw_lc0 8 dX12_share_8 ?_
    refine aw_lcmp 9 dX12_share_9 ?_
    refine aw_if_eq 10 31 dX12_share_10 (by decide) (fun h10 => ?_) (fun h10 => ?_)
    · refine aw_iload4 31 dX12_share_31 ?_
      refine aw_if_ne 33 40 dX12_share_33 (by decide) (fun h33 => ?_) (fun h33 => ?_)
      · refine aw_lload2 40 dX12_share_40 ?_
        refine aw_lload5 41 dX12_share_41 ?_
        refine aw_ldiv 43 dX12_share_43 hz ?_
        refine aw_lret 44 dX12_share_44 rfl (Nat.zero_le _) (Nat.zero_le _) ?_
        refine ⟨?_, rfl⟩
        first
          | rw [if_pos h33]
          | rw [if_neg h33]
      · refine aw_lload0 36 dX12_share_36 ?_
        refine aw_goto 37 41 dX12_share_37 (by decide) ?_
        refine aw_lload5 41 dX12_share_41 ?_
        refine aw_ldiv 43 dX12_share_43 hz ?_
        refine aw_lret 44 dX12_share_44 rfl (Nat.zero_le _) (Nat.zero_le _) ?_
        refine ⟨?_, rfl⟩
        first
          | rw [if_pos h33]
          | rw [if_neg h33]
    · exact absurd (lc_eq.mpr rfl) h10
  | succ f ih =>
    intro x y z he hg hz
    refine aw_lload7 6 dX12_share_6 ?_
    refine aw_lc0 8 dX12_share_8 ?_
    refine aw_lcmp 9 dX12_share_9 ?_
    refine aw_if_eq 10 31 dX12_share_10 (by decide) (fun h10 => ?_) (fun h10 => ?_)
    · rw [lc_eq] at h10
      have hx : x = g := by simpa [gcl, h10] using hg
      subst hx
      refine aw_iload4 31 dX12_share_31 ?_
      refine aw_if_ne 33 40 dX12_share_33 (by decide) (fun h33 => ?_) (fun h33 => ?_)
      · refine aw_lload2 40 dX12_share_40 ?_
        refine aw_lload5 41 dX12_share_41 ?_
        refine aw_ldiv 43 dX12_share_43 hz ?_
        refine aw_lret 44 dX12_share_44 rfl (Nat.zero_le _) (Nat.zero_le _) ?_
        refine ⟨?_, rfl⟩
        first
          | rw [if_pos h33]
          | rw [if_neg h33]
      · refine aw_lload0 36 dX12_share_36 ?_
        refine aw_goto 37 41 dX12_share_37 (by decide) ?_
        refine aw_lload5 41 dX12_share_41 ?_
        refine aw_ldiv 43 dX12_share_43 hz ?_
        refine aw_lret 44 dX12_share_44 rfl (Nat.zero_le _) (Nat.zero_le _) ?_
        refine ⟨?_, rfl⟩
        first
          | rw [if_pos h33]
          | rw [if_neg h33]
    · rw [lc_eq] at h10
      refine aw_lload5 13 dX12_share_13 ?_
      refine aw_lload7 15 dX12_share_15 ?_
      refine aw_lrem 17 dX12_share_17 h10 ?_
      refine aw_lstore9 18 dX12_share_18 rfl ?_
      refine aw_lload7 20 dX12_share_20 ?_
      refine aw_lstore5 22 dX12_share_22 rfl ?_
      refine aw_lload9 24 dX12_share_24 ?_
      refine aw_lstore7 26 dX12_share_26 rfl ?_
      refine aw_goto 28 6 dX12_share_28 (by decide) ?_
      exact ih _ _ _ (by simpa [gce, h10] using he) (by simpa [gcl, h10] using hg) hz
set_option maxHeartbeats 4000000 in
set_option maxRecDepth 100000 in
theorem c_X12_share {a b : Int64} {w : Int32} (f : Nat) (he : gce f a b = true) (hz : ¬ gcl f a b = 0) : SD mX12_share rmX12_share [.long a, .long b, .int w] (some (.long ((if w = 0 then a else b) / gcl f a b))) := by
  intro M
  refine am_of rfl rfl (ls := [some (.long a), none, some (.long b), none, some (.int w), none, none, none, none, none, none]) rfl ?_
  refine aw_lload0 0 dX12_share_0 ?_
  refine aw_lstore5 1 dX12_share_1 rfl ?_
  refine aw_lload2 3 dX12_share_3 ?_
  refine aw_lstore7 4 dX12_share_4 rfl ?_
  exact c_share_loop (gcl f a b) f a b _ he rfl hz

/-- how many ways there are to have just k of n -/
def wys (n : Nat) : Nat → Int64
  | 0 => 1
  | k + 1 => wys n k * (nI n - nI k).toInt64 / (nI k + 1).toInt64
/-- how many to have c or more, counted up to k -/
def asl (n : Nat) (c : Int32) : Nat → Int64
  | 0 => 0
  | k + 1 => asl n c k + (if nI k < c then 0 else wys n k)
theorem fls_ok : ∀ n, n < 9 → ∀ c, c < 9 → gce 20 (asl n (nI c) (n + 1)) ((1 : Int32) <<< (nI n &&& 31)).toInt64 = true ∧ ¬ gcl 20 (asl n (nI c) (n + 1)) ((1 : Int32) <<< (nI n &&& 31)).toInt64 = 0 := by decide +kernel
theorem fnd_nat {τ : TT} {p : Nat} {m : Int32} : ∀ n, ∃ c, c ≤ n ∧ fnd τ p m n = nI c
  | 0 => ⟨0, Nat.le_refl _, rfl⟩
  | n + 1 => by
    obtain ⟨c, h1, h2⟩ := fnd_nat (τ := τ) (p := p) (m := m) n
    by_cases h : soI τ p n m
    · exact ⟨c + 1, by omega, by show fnd τ p m n + bi _ = _; rw [bi_t h, h2, nI_1]⟩
    · exact ⟨c, by omega, by show fnd τ p m n + bi _ = _; rw [bi_f h, h2]; exact nI_add c 0⟩
def fls (n : Nat) (c w : Int32) : Int64 := (if w = 0 then asl n c (n + 1) else ((1 : Int32) <<< (nI n &&& 31)).toInt64) / gcl 20 (asl n c (n + 1)) ((1 : Int32) <<< (nI n &&& 31)).toInt64
theorem k1_ne {k : Nat} (h : k < 100) : ¬ (nI k + 1).toInt64 = 0 := by
  rw [nI_1, nI_l (by omega)]
  intro q
  have := (lN_eq (a := k + 1) (b := 0) (by omega) (by omega)).mp q
  omega

def rmX12_falsely : Room := { frames := 3, cells := 0, slots := 0, locals := 69 }
set_option maxHeartbeats 4000000 in
set_option maxRecDepth 100000 in
theorem n_X12_falsely {τ : TT} {v m w : Int32} (hw : WP τ) (hno : ¬ ir v (nP τ) ∨ ¬ irg m 0 255 ∨ ¬ irg w 0 1) : RD mX12_falsely rmX12_falsely [.int v, .int m, .int w] τ (some (.long (-9223372036854775808))) (τ) := by
  intro M0 hW0
  refine am_of rfl rfl (ls := [some (.ref 25), some (.int v), some (.int m), some (.int w), none, none, none, none, none, none]) rfl ?_
  suffices HH : ∀ M, RO τ M0 M → AW mX12_falsely rmX12_falsely (fun r' M' => r' = (some (.long (-9223372036854775808))) ∧ RO (τ) M0 M') 0 [some (.ref 25), some (.int v), some (.int m), some (.int w), none, none, none, none, none, none] [] M 0 0 from HH M0 ⟨hW0, Off.rf M0⟩
  intro M hW
  refine aw_aload0 0 dX12_falsely_0 ?_
  refine aw_iload1 1 dX12_falsely_1 ?_
  refine rw_call1 2 dX12_falsely_2 (c_X12_noPicture hw) ckV_RX12_146 cd_X12_noPicture rfl hW rfl (Nat.le_of_ble_eq_true rfl) ⟨⟨by decide, by decide⟩, by decide, by decide⟩ rfl (fun M hW => ?_)
  refine aw_ifne_b 5 25 dX12_falsely_5 (by decide) (fun h5 => ?_) (fun h5 => ?_)
  · refine sd_call1 25 dX12_falsely_25 c_X12_lost ckS_RX12_85 cd_X12_lost rfl (Nat.le_of_ble_eq_true rfl) ⟨⟨by decide, by decide⟩, by decide, by decide⟩ rfl ?_
    refine aw_lret 28 dX12_falsely_28 rfl (Nat.zero_le _) (Nat.zero_le _) ?_
    exact ⟨rfl, hW⟩
  · refine aw_iload2 8 dX12_falsely_8 ?_
    refine sd_call1 9 dX12_falsely_9 (c_X12_isMark) ckS_RX12_267 cd_X12_isMark rfl (Nat.le_of_ble_eq_true rfl) ⟨⟨by decide, by decide⟩, by decide, by decide⟩ rfl ?_
    refine aw_ifeq_b 12 25 dX12_falsely_12 (by decide) (fun h12 => ?_) (fun h12 => ?_)
    · refine sd_call1 25 dX12_falsely_25 c_X12_lost ckS_RX12_85 cd_X12_lost rfl (Nat.le_of_ble_eq_true rfl) ⟨⟨by decide, by decide⟩, by decide, by decide⟩ rfl ?_
      refine aw_lret 28 dX12_falsely_28 rfl (Nat.zero_le _) (Nat.zero_le _) ?_
      exact ⟨rfl, hW⟩
    · refine aw_iload3 15 dX12_falsely_15 ?_
      refine aw_i2l 16 dX12_falsely_16 ?_
      refine aw_lc0 17 dX12_falsely_17 ?_
      refine aw_lc1 18 dX12_falsely_18 ?_
      refine sd_call1 19 dX12_falsely_19 (c_in2 (0) (1) (by decide) (by decide)) ckS_RX12_99 cd_X12_in rfl (Nat.le_of_ble_eq_true rfl) ⟨⟨by decide, by decide⟩, by decide, by decide⟩ rfl ?_
      refine aw_ifne_b 22 29 dX12_falsely_22 (by decide) (fun h22 => ?_) (fun h22 => ?_)
      · exact absurd hno (fun q => q.elim h5 (fun q => q.elim (fun z => z h12) (fun z => z h22)))
      · refine sd_call1 25 dX12_falsely_25 c_X12_lost ckS_RX12_85 cd_X12_lost rfl (Nat.le_of_ble_eq_true rfl) ⟨⟨by decide, by decide⟩, by decide, by decide⟩ rfl ?_
        refine aw_lret 28 dX12_falsely_28 rfl (Nat.zero_le _) (Nat.zero_le _) ?_
        exact ⟨rfl, hW⟩

set_option maxHeartbeats 4000000 in
set_option maxRecDepth 100000 in
theorem c_X12_falsely {τ : TT} {p : Nat} {m w : Int32} (hw : WP τ) (hp : p < nP τ) (hm : irg m 0 255) (hw1 : irg w 0 1) : RD mX12_falsely rmX12_falsely [.int (nI p), .int m, .int w] τ (some (.long (fls (min 8 (wd τ p * hg τ p)) (fnd τ p m (min 8 (wd τ p * hg τ p))) w))) (τ) := by
  intro M0 hW0
  refine am_of rfl rfl (ls := [some (.ref 25), some (.int (nI p)), some (.int m), some (.int w), none, none, none, none, none, none]) rfl ?_
  suffices HH : ∀ M, RO τ M0 M → AW mX12_falsely rmX12_falsely (fun r' M' => r' = (some (.long (fls (min 8 (wd τ p * hg τ p)) (fnd τ p m (min 8 (wd τ p * hg τ p))) w))) ∧ RO (τ) M0 M') 0 [some (.ref 25), some (.int (nI p)), some (.int m), some (.int w), none, none, none, none, none, none] [] M 0 0 from HH M0 ⟨hW0, Off.rf M0⟩
  intro M hW
  have hn12 := hw.1.1
  have hwd := (hw.2 p hp).1
  have hhg := (hw.2 p hp).2
  have hip := ir_nI (n := nP τ) (by omega) hp
  have hm16 := wmul hwd.2.1 hhg.2.1
  obtain ⟨c, hc1, hc2⟩ := fnd_nat (τ := τ) (p := p) (m := m) (min 8 (wd τ p * hg τ p))
  have hok := fls_ok (min 8 (wd τ p * hg τ p)) (by omega) c (by omega)
  rw [← hc2] at hok
  refine aw_aload0 0 dX12_falsely_0 ?_
  refine aw_iload1 1 dX12_falsely_1 ?_
  refine rw_call1 2 dX12_falsely_2 (c_X12_noPicture hw) ckV_RX12_146 cd_X12_noPicture rfl hW rfl (Nat.le_of_ble_eq_true rfl) ⟨⟨by decide, by decide⟩, by decide, by decide⟩ rfl (fun M hW => ?_)
  refine aw_ifne_b 5 25 dX12_falsely_5 (by decide) (fun h5 => ?_) (fun h5 => ?_)
  · first | exact absurd hip h5 | exact absurd hm h12 | exact absurd hw1 h22
  · refine aw_iload2 8 dX12_falsely_8 ?_
    refine sd_call1 9 dX12_falsely_9 (c_X12_isMark) ckS_RX12_267 cd_X12_isMark rfl (Nat.le_of_ble_eq_true rfl) ⟨⟨by decide, by decide⟩, by decide, by decide⟩ rfl ?_
    refine aw_ifeq_b 12 25 dX12_falsely_12 (by decide) (fun h12 => ?_) (fun h12 => ?_)
    · first | exact absurd hip h5 | exact absurd hm h12 | exact absurd hw1 h22
    · refine aw_iload3 15 dX12_falsely_15 ?_
      refine aw_i2l 16 dX12_falsely_16 ?_
      refine aw_lc0 17 dX12_falsely_17 ?_
      refine aw_lc1 18 dX12_falsely_18 ?_
      refine sd_call1 19 dX12_falsely_19 (c_in2 (0) (1) (by decide) (by decide)) ckS_RX12_99 cd_X12_in rfl (Nat.le_of_ble_eq_true rfl) ⟨⟨by decide, by decide⟩, by decide, by decide⟩ rfl ?_
      refine aw_ifne_b 22 29 dX12_falsely_22 (by decide) (fun h22 => ?_) (fun h22 => ?_)
      · refine aw_aload0 29 dX12_falsely_29 ?_
        refine aw_iload1 30 dX12_falsely_30 ?_
        refine rw_call1 31 dX12_falsely_31 (c_X12_looked hw hp) ckV_RX12_270 cd_X12_looked rfl hW rfl (Nat.le_of_ble_eq_true rfl) ⟨⟨by decide, by decide⟩, by decide, by decide⟩ rfl (fun M hW => ?_)
        refine aw_istore4 34 dX12_falsely_34 rfl ?_
        refine aw_lc0 36 dX12_falsely_36 ?_
        refine aw_lstore5 37 dX12_falsely_37 rfl ?_
        refine aw_lc1 39 dX12_falsely_39 ?_
        refine aw_lstore7 40 dX12_falsely_40 rfl ?_
        refine aw_ic0 42 dX12_falsely_42 ?_
        refine aw_istore9 43 dX12_falsely_43 rfl ?_
        have LP45 : ∀ (dd : Nat) (k : Nat) (M : Mem), (min 8 (wd τ p * hg τ p)) + 1 - k = dd → (k ≤ (min 8 (wd τ p * hg τ p)) + 1) → (RO τ M0 M) → AW mX12_falsely rmX12_falsely (fun r' M' => r' = (some (.long (fls (min 8 (wd τ p * hg τ p)) (fnd τ p m (min 8 (wd τ p * hg τ p))) w))) ∧ RO (τ) M0 M') 45 [some (.ref 25), some (.int (nI p)), some (.int m), some (.int w), some (.int (nI (min 8 (wd τ p * hg τ p)))), some (.long (asl (min 8 (wd τ p * hg τ p)) (fnd τ p m (min 8 (wd τ p * hg τ p))) k)), none, some (.long (wys (min 8 (wd τ p * hg τ p)) k)), none, some (.int (nI k))] [] M 0 0 := by
          intro dd
          induction dd using Nat.strongRecOn with
          | _ dd ih45 =>
            intro k M hdd hk hW
            refine aw_iload9 45 dX12_falsely_45 ?_
            refine aw_iload4 47 dX12_falsely_47 ?_
            refine aw_icmp_gtN 49 97 (k) (min 8 (wd τ p * hg τ p)) dX12_falsely_49 (by decide) rfl rfl (by omega) (by omega) (fun h49 => ?_) (fun h49 => ?_)
            · have he : k = (min 8 (wd τ p * hg τ p)) + 1 := by omega
              subst he
              refine aw_lload5 97 dX12_falsely_97 ?_
              refine aw_ic1 99 dX12_falsely_99 ?_
              refine aw_iload4 100 dX12_falsely_100 ?_
              refine aw_ishl 102 dX12_falsely_102 ?_
              refine aw_i2l 103 dX12_falsely_103 ?_
              refine aw_iload3 104 dX12_falsely_104 ?_
              refine sd_call1 105 dX12_falsely_105 (c_X12_share 20 hok.1 hok.2) ckS_RX12_279 cd_X12_share rfl (Nat.le_of_ble_eq_true rfl) ⟨⟨by decide, by decide⟩, by decide, by decide⟩ rfl ?_
              refine aw_lret 108 dX12_falsely_108 rfl (Nat.zero_le _) (Nat.zero_le _) ?_
              exact ⟨rfl, hW⟩
            · refine aw_lload5 52 dX12_falsely_52 ?_
              refine aw_iload9 54 dX12_falsely_54 ?_
              refine aw_aload0 56 dX12_falsely_56 ?_
              refine aw_iload1 57 dX12_falsely_57 ?_
              refine aw_iload2 58 dX12_falsely_58 ?_
              refine rw_call1 59 dX12_falsely_59 (c_X12_foundIn hw hp) ckV_RX12_276 cd_X12_foundIn rfl hW rfl (Nat.le_of_ble_eq_true rfl) ⟨⟨by decide, by decide⟩, by decide, by decide⟩ rfl (fun M hW => ?_)
              refine aw_icmp_lt 62 70 dX12_falsely_62 (by decide) (fun h62 => ?_) (fun h62 => ?_)
              · refine aw_lc0 70 dX12_falsely_70 ?_
                refine aw_ladd 71 dX12_falsely_71 ?_
                rw [show asl (min 8 (wd τ p * hg τ p)) (fnd τ p m (min 8 (wd τ p * hg τ p))) k + _ = asl (min 8 (wd τ p * hg τ p)) (fnd τ p m (min 8 (wd τ p * hg τ p))) (k + 1) by
                  show _ = asl (min 8 (wd τ p * hg τ p)) (fnd τ p m (min 8 (wd τ p * hg τ p))) k + ite _ _ _
                  first
                    | rw [if_pos h62]
                    | rw [if_neg h62]]
                refine aw_lstore5 72 dX12_falsely_72 rfl ?_
                refine aw_lload7 74 dX12_falsely_74 ?_
                refine aw_iload4 76 dX12_falsely_76 ?_
                refine aw_iload9 78 dX12_falsely_78 ?_
                refine aw_isub 80 dX12_falsely_80 ?_
                refine aw_i2l 81 dX12_falsely_81 ?_
                refine aw_lmul 82 dX12_falsely_82 ?_
                refine aw_iload9 83 dX12_falsely_83 ?_
                refine aw_ic1 85 dX12_falsely_85 ?_
                refine aw_iadd 86 dX12_falsely_86 ?_
                refine aw_i2l 87 dX12_falsely_87 ?_
                refine aw_ldiv 88 dX12_falsely_88 (k1_ne (by omega)) ?_
                refine aw_lstore7 89 dX12_falsely_89 rfl ?_
                refine aw_iinc9 91 (nI (k + 1)) dX12_falsely_91 (nI_1 _) rfl ?_
                refine aw_goto 94 45 dX12_falsely_94 (by decide) ?_
                exact ih45 _ (by omega) (k + 1) M rfl (by omega) hW
              · refine aw_lload7 65 dX12_falsely_65 ?_
                refine aw_goto 67 71 dX12_falsely_67 (by decide) ?_
                refine aw_ladd 71 dX12_falsely_71 ?_
                rw [show asl (min 8 (wd τ p * hg τ p)) (fnd τ p m (min 8 (wd τ p * hg τ p))) k + _ = asl (min 8 (wd τ p * hg τ p)) (fnd τ p m (min 8 (wd τ p * hg τ p))) (k + 1) by
                  show _ = asl (min 8 (wd τ p * hg τ p)) (fnd τ p m (min 8 (wd τ p * hg τ p))) k + ite _ _ _
                  first
                    | rw [if_pos h62]
                    | rw [if_neg h62]]
                refine aw_lstore5 72 dX12_falsely_72 rfl ?_
                refine aw_lload7 74 dX12_falsely_74 ?_
                refine aw_iload4 76 dX12_falsely_76 ?_
                refine aw_iload9 78 dX12_falsely_78 ?_
                refine aw_isub 80 dX12_falsely_80 ?_
                refine aw_i2l 81 dX12_falsely_81 ?_
                refine aw_lmul 82 dX12_falsely_82 ?_
                refine aw_iload9 83 dX12_falsely_83 ?_
                refine aw_ic1 85 dX12_falsely_85 ?_
                refine aw_iadd 86 dX12_falsely_86 ?_
                refine aw_i2l 87 dX12_falsely_87 ?_
                refine aw_ldiv 88 dX12_falsely_88 (k1_ne (by omega)) ?_
                refine aw_lstore7 89 dX12_falsely_89 rfl ?_
                refine aw_iinc9 91 (nI (k + 1)) dX12_falsely_91 (nI_1 _) rfl ?_
                refine aw_goto 94 45 dX12_falsely_94 (by decide) ?_
                exact ih45 _ (by omega) (k + 1) M rfl (by omega) hW
        exact LP45 _ 0 M rfl (Nat.zero_le _) hW
      · first | exact absurd hip h5 | exact absurd hm h12 | exact absurd hw1 h22

