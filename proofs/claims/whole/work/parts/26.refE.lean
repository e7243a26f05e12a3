/-! reading acts: the words of it, and the reference's digits (gen/refE.py) -/
abbrev isD (t : Nat → Int32) (n i : Nat) : Prop := i < n ∧ irg (t i) 48 57
def dv (t : Nat → Int32) (i : Nat) : Nat := ((t i).toInt - 48).toNat
theorem isD_v {t : Nat → Int32} {n i : Nat} (h : isD t n i) : dv t i ≤ 9 ∧ t i = nI (48 + dv t i) ∧ t i - 48 = nI (dv t i) := by
  have h1 : t i = nI (48 + dv t i) := by
    obtain ⟨z, hz, he⟩ := ir_of (v := t i) (n := 58) ⟨by have := h.2.1; omega, by have := h.2.2; omega⟩ (by decide)
    have h3 := h.2.1
    have h4 : (t i).toInt = z := by rw [he, nI_toInt (by omega)]
    rw [h4] at h3
    unfold dv
    rw [h4, he]
    congr 1
    omega
  refine ⟨?_, h1, ?_⟩
  · unfold dv
    have := h.2.2
    omega
  · rw [h1, show (48 : Int32) = nI 48 from rfl, pk_sub (by omega), show 48 + dv t i - 48 = dv t i by omega]
/-- the numbers behind a code: whether they are right, where the reader stands then, the number -/
def rdN (t : Nat → Int32) (n : Nat) (c : Int32) (i : Nat) : Bool × Nat × Nat :=
  if c = 99 ∨ c = 98 then
    if ¬ isD t n i then (false, i, 0) else if ¬ isD t n (i + 1) then (false, i + 1, 0) else if ¬ isD t n (i + 2) then (false, i + 2, 0) else if ¬ isD t n (i + 3) then (false, i + 3, 0)
    else (true, i + 4, 1000 * dv t i + 100 * dv t (i + 1) + 10 * dv t (i + 2) + dv t (i + 3))
  else if c = 116 then (true, i, 0)
  else if c = 113 then if isD t n i ∧ 2 ≤ dv t i then (true, i + 1, dv t i) else (false, i, 0)
  else if ¬ isD t n i then (false, i, 0) else if ¬ isD t n (i + 1) then (if dv t i = 0 then (false, i, 0) else (true, i + 1, dv t i))
  else if 10 * dv t i + dv t (i + 1) = 0 then (false, i, 0) else (true, i + 2, 10 * dv t i + dv t (i + 1))
abbrev isKd (c : Int32) : Prop := c = 99 ∨ c = 98 ∨ c = 116 ∨ c = 108 ∨ c = 109 ∨ c = 113
def cdA (t : Nat → Int32) (n i : Nat) : Int32 := if i < n then t i else 0
def rdA (t : Nat → Int32) (n : Nat) : Nat → Nat → List (Int32 × Nat) → Nat ⊕ List (Int32 × Nat)
  | 0, i, _ => .inl i
  | f + 1, i, acc => if ¬ isKd (cdA t n i) then .inl i else if (rdN t n (cdA t n i) (i + 1)).1 = false then .inl (rdN t n (cdA t n i) (i + 1)).2.1
    else if n ≤ (rdN t n (cdA t n i) (i + 1)).2.1 then .inr (acc ++ [(cdA t n i, (rdN t n (cdA t n i) (i + 1)).2.2)])
    else if ¬ t (rdN t n (cdA t n i) (i + 1)).2.1 = 59 ∨ f = 0 then .inl (rdN t n (cdA t n i) (i + 1)).2.1
    else rdA t n f ((rdN t n (cdA t n i) (i + 1)).2.1 + 1) (acc ++ [(cdA t n i, (rdN t n (cdA t n i) (i + 1)).2.2)])
/-- the reference's five numbers of an act -/
def actR (A : Nat → Int32) (a : Nat) (q : Int32 × Nat) : Prop := A a = q.1 ∧ ((q.1 = 99 ∨ q.1 = 98) → A (a + 1) = nI (q.2 / 1000) ∧ A (a + 2) = nI (q.2 / 100 % 10) ∧ A (a + 3) = nI (q.2 / 10 % 10) ∧ A (a + 4) = nI (q.2 % 10)) ∧ (¬ (q.1 = 99 ∨ q.1 = 98) → A (a + 1) = nI q.2)
def RP (Z : YY) (rm : Room) (as : List Value) (τ : TT) (r : Option Value) (P : TT → Prop) : Prop := ∀ M, RW τ M → AM Z rm (.ref 25 :: as) M (fun r' M' => r' = r ∧ ∃ σ, RO σ M M' ∧ P σ)
section
variable {Y : YY} {R : Room} {Q : Option Value → Mem → Prop} {ls : List (Option Value)} {st : List Value} {M M0 : Mem} {cs ss : Nat} {τ : TT}
theorem rp_call1 (pc : Nat) {Z : YY} {rm : Room} {as st0 : List Value} {r : Value} {P : TT → Prop} {idx : Nat} (hd : decode Y.2.1 pc = .ok (.invokevirtual idx, 3)) (hM : RP Z rm as τ (some r) P) (ck : ckV Y.1.cls idx Z as.length = true) (hcd : inTbl Z) (hcl : Z.1.cls = RX12) (hW : RO τ M0 M) (hst : st0 = as.reverse ++ .ref 25 :: st) (hw : (st.map fun v => v.category).sum ≤ 8) (hR1 : rmOK R rm Z cs ss) (hz : (rm.cells, rm.slots) = (0, 0))
    (kk : ∀ σ M, P σ → RO σ M0 M → AW Y R Q (pc + 3) ls (r :: st) M cs ss) : AW Y R Q pc ls st0 M cs ss :=
  aw_virt pc hd ck hcd hW.1.1 (show vwCl[12]? = some (RX12, TX12, 33) from rfl) hcl (hM M hW.1) hst hw hR1 (fun r' M' q => by
    obtain ⟨rfl, σ, q2, q3⟩ := q
    rw [(Prod.mk.inj hz).1, (Prod.mk.inj hz).2]
    exact kk σ M' q3 ⟨q2.1, hW.2.trans q2.2⟩)
end

def rmX12_isDigit : Room := { frames := 1, cells := 0, slots := 0, locals := 25 }
set_option maxHeartbeats 4000000 in
set_option maxRecDepth 100000 in
theorem c_X12_isDigit {τ : TT} {b n i : Nat} (hbn : b + n ≤ 240) (hi : τ 8 0 = nI i) (hi2 : i ≤ 100) : RD mX12_isDigit rmX12_isDigit [.int (nI b), .int (nI n)] τ (some (.int (bi (isD (fun j => τ 30 (b + j)) n i)))) (τ) := by
  intro M0 hW0
  refine am_of rfl rfl (ls := [some (.ref 25), some (.int (nI b)), some (.int (nI n))]) rfl ?_
  suffices HH : ∀ M, RO τ M0 M → AW mX12_isDigit rmX12_isDigit (fun r' M' => r' = (some (.int (bi (isD (fun j => τ 30 (b + j)) n i)))) ∧ RO (τ) M0 M') 0 [some (.ref 25), some (.int (nI b)), some (.int (nI n))] [] M 0 0 from HH M0 ⟨hW0, Off.rf M0⟩
  intro M hW
  refine aw_aload0 0 dX12_isDigit_0 ?_
  refine rw_gi 1 8 dX12_isDigit_1 ckF_RX12_159_12 (by decide) rfl hW ?_
  refine aw_topi (w := nI i) (hi) ?_
  refine aw_iload2 4 dX12_isDigit_4 ?_
  refine aw_icmp_geN 5 36 (i) (n) dX12_isDigit_5 (by decide) rfl rfl (by omega) (by omega) (fun h5 => ?_) (fun h5 => ?_)
  · refine aw_ic0 36 dX12_isDigit_36 ?_
    refine aw_zret 37 dX12_isDigit_37 rfl (by first | rfl | exact bi_nar | decide) (Nat.zero_le _) (Nat.zero_le _) ?_
    refine ⟨?_, hW⟩
    first
      | (rw [bi_f (nl (Nat.not_lt.mpr h5))]; done)
      | (rw [bi_f (nr h29)]; done)
      | (rw [bi_t (And.intro h5 h29)]; done)
  · refine aw_aload0 8 dX12_isDigit_8 ?_
    refine rw_ga 9 30 dX12_isDigit_9 ckF_RX12_73_12 (by decide) (by decide) hW ?_
    refine aw_iload1 12 dX12_isDigit_12 ?_
    refine aw_aload0 13 dX12_isDigit_13 ?_
    refine rw_gi 14 8 dX12_isDigit_14 ckF_RX12_159_12 (by decide) rfl hW ?_
    refine aw_topi (w := nI i) (hi) ?_
    refine aw_iaddN 17 (b) (i) dX12_isDigit_17 rfl rfl ?_
    refine rw_ld 18 30 (b + i) dX12_isDigit_18 hW rfl (show b + i < 240 by omega) ?_
    refine aw_i2l 19 dX12_isDigit_19 ?_
    refine aw_ldc2 20 (48) dX12_isDigit_20 ckL_RX12_162 ?_
    refine aw_ldc2 23 (57) dX12_isDigit_23 ckL_RX12_164 ?_
    refine sd_call1 26 dX12_isDigit_26 (c_in2 (48) (57) (by decide) (by decide)) ckS_RX12_99 cd_X12_in rfl (Nat.le_of_ble_eq_true rfl) ⟨⟨by decide, by decide⟩, by decide, by decide⟩ rfl ?_
    refine aw_ifeq_b 29 36 dX12_isDigit_29 (by decide) (fun h29 => ?_) (fun h29 => ?_)
    · refine aw_ic0 36 dX12_isDigit_36 ?_
      refine aw_zret 37 dX12_isDigit_37 rfl (by first | rfl | exact bi_nar | decide) (Nat.zero_le _) (Nat.zero_le _) ?_
      refine ⟨?_, hW⟩
      first
        | (rw [bi_f (nl (Nat.not_lt.mpr h5))]; done)
        | (rw [bi_f (nr h29)]; done)
        | (rw [bi_t (And.intro h5 h29)]; done)
    · refine aw_ic1 32 dX12_isDigit_32 ?_
      refine aw_goto 33 37 dX12_isDigit_33 (by decide) ?_
      refine aw_zret 37 dX12_isDigit_37 rfl (by first | rfl | exact bi_nar | decide) (Nat.zero_le _) (Nat.zero_le _) ?_
      refine ⟨?_, hW⟩
      first
        | (rw [bi_f (nl (Nat.not_lt.mpr h5))]; done)
        | (rw [bi_f (nr h29)]; done)
        | (rw [bi_t (And.intro h5 h29)]; done)

def rnP (τ : TT) (m : Nat) (c : Int32) (q : Bool × Nat × Nat) (σ : TT) : Prop := Obs σ τ ∧ σ 6 0 = nI m ∧ σ 8 0 = nI q.2.1 ∧ (∀ j, j ≤ 5 * m → σ 7 j = τ 7 j) ∧ (q.1 = true → actR (σ 7) (5 * m) (c, q.2.2))
theorem obs_tu {σ τ : TT} {i k : Nat} {v : Int32} (h : Obs σ τ) (hs : scr i) : Obs (tu σ i k v) τ := fun j hj => by
  rw [tu_ne (show j ≠ i from fun e => hj (by rw [e]; exact hs))]
  exact h j hj
theorem rdN_bad {t : Nat → Int32} {n : Nat} {c : Int32} {i k : Nat} (hc : c = 99 ∨ c = 98) (hk : k < 4) (hd : ∀ q, q < k → isD t n (i + q)) (hb : ¬ isD t n (i + k)) : rdN t n c i = (false, i + k, 0) := by
  unfold rdN
  rw [if_pos hc]
  rcases (show k = 0 ∨ k = 1 ∨ k = 2 ∨ k = 3 by omega) with rfl | rfl | rfl | rfl
  · rw [if_pos (show ¬ isD t n i from hb)]; rfl
  · rw [if_neg (nn (show isD t n i from hd 0 (by omega))), if_pos hb]
  · rw [if_neg (nn (show isD t n i from hd 0 (by omega))), if_neg (nn (hd 1 (by omega))), if_pos hb]
  · rw [if_neg (nn (show isD t n i from hd 0 (by omega))), if_neg (nn (hd 1 (by omega))), if_neg (nn (hd 2 (by omega))), if_pos hb]
theorem rdN_good {t : Nat → Int32} {n : Nat} {c : Int32} {i : Nat} (hc : c = 99 ∨ c = 98) (hd : ∀ q, q < 4 → isD t n (i + q)) : rdN t n c i = (true, i + 4, 1000 * dv t i + 100 * dv t (i + 1) + 10 * dv t (i + 2) + dv t (i + 3)) := by
  unfold rdN
  rw [if_pos hc, if_neg (nn (show isD t n i from hd 0 (by omega))), if_neg (nn (hd 1 (by omega))), if_neg (nn (hd 2 (by omega))), if_neg (nn (hd 3 (by omega)))]
theorem act4 {a b c d : Nat} (ha : a ≤ 9) (hb : b ≤ 9) (hc : c ≤ 9) (hd : d ≤ 9) : (1000 * a + 100 * b + 10 * c + d) / 1000 = a ∧ (1000 * a + 100 * b + 10 * c + d) / 100 % 10 = b ∧ (1000 * a + 100 * b + 10 * c + d) / 10 % 10 = c ∧ (1000 * a + 100 * b + 10 * c + d) % 10 = d := by omega

def rmX12_readsNumbers : Room := { frames := 2, cells := 0, slots := 0, locals := 47 }
set_option maxHeartbeats 4000000 in
set_option maxRecDepth 100000 in
theorem c99_X12_readsNumbers {τ : TT} {b n m i : Nat} (hbn : b + n ≤ 240) (hm : m < 5) (h6 : τ 6 0 = nI m) (h8 : τ 8 0 = nI i) (hi : i ≤ 60) (h7 : τ 7 (5 * m) = 99) : RP mX12_readsNumbers rmX12_readsNumbers [.int 99, .int (nI b), .int (nI n)] τ (some (.int (bi ((rdN (fun j => τ 30 (b + j)) n 99 i).1 = true)))) (rnP τ m 99 (rdN (fun j => τ 30 (b + j)) n 99 i)) := by
  intro M0 hW0
  refine am_of rfl rfl (ls := [some (.ref 25), some (.int 99), some (.int (nI b)), some (.int (nI n)), none, none, none, none]) rfl ?_
  suffices HH : ∀ M, RO τ M0 M → AW mX12_readsNumbers rmX12_readsNumbers (fun r' M' => r' = (some (.int (bi ((rdN (fun j => τ 30 (b + j)) n 99 i).1 = true)))) ∧ ∃ σ, RO σ M0 M' ∧ (rnP τ m 99 (rdN (fun j => τ 30 (b + j)) n 99 i)) σ) 0 [some (.ref 25), some (.int 99), some (.int (nI b)), some (.int (nI n)), none, none, none, none] [] M 0 0 from HH M0 ⟨hW0, Off.rf M0⟩
  intro M hW
  refine aw_ic5 0 dX12_readsNumbers_0 ?_
  refine aw_aload0 1 dX12_readsNumbers_1 ?_
  refine rw_gi 2 6 dX12_readsNumbers_2 ckF_RX12_166_12 (by decide) rfl hW ?_
  refine aw_topi (w := nI m) (h6) ?_
  refine aw_imulN 5 (5) (m) dX12_readsNumbers_5 rfl rfl ?_
  refine aw_ic1 6 dX12_readsNumbers_6 ?_
  refine aw_iaddN 7 (5 * m) (1) dX12_readsNumbers_7 rfl rfl ?_
  refine aw_istore4 8 dX12_readsNumbers_8 rfl ?_
  refine aw_iload1 10 dX12_readsNumbers_10 ?_
  refine aw_bipush 11 99 dX12_readsNumbers_11 (by decide) ?_
  refine aw_icmp_eqN 13 22 (99) (99) dX12_readsNumbers_13 (by decide) rfl rfl (by decide) (by decide) (fun _ => ?_) (fun h => absurd h (by decide))
  refine aw_ic0 22 dX12_readsNumbers_22 ?_
  refine aw_istore5 23 dX12_readsNumbers_23 rfl ?_
  have LP25 : ∀ (dd : Nat) (k : Nat) (ρ : TT) (M : Mem), 4 - k = dd → (k ≤ 4) → (Obs ρ τ) → (ρ 6 0 = nI m) → (ρ 8 0 = nI (i + k)) → (∀ j, j ≤ 5 * m → ρ 7 j = τ 7 j) → (∀ q, q < k → isD (fun j => τ 30 (b + j)) n (i + q)) → (∀ q, q < k → ρ 7 (5 * m + 1 + q) = nI (dv (fun j => τ 30 (b + j)) (i + q))) → (RO ρ M0 M) → AW mX12_readsNumbers rmX12_readsNumbers (fun r' M' => r' = (some (.int (bi ((rdN (fun j => τ 30 (b + j)) n 99 i).1 = true)))) ∧ ∃ σ, RO σ M0 M' ∧ (rnP τ m 99 (rdN (fun j => τ 30 (b + j)) n 99 i)) σ) 25 [some (.ref 25), some (.int 99), some (.int (nI b)), some (.int (nI n)), some (.int (nI (5 * m + 1))), some (.int (nI k)), none, none] [] M 0 0 := by
    intro dd
    induction dd using Nat.strongRecOn with
    | _ dd ih25 =>
      intro k ρ M hdd hk ho hr6 hr8 hr7 hd hdv hW
      have hT : (fun j => ρ 30 (b + j)) = (fun j => τ 30 (b + j)) := by rw [ho 30 (by decide)]
      refine aw_iload5 25 dX12_readsNumbers_25 ?_
      refine aw_ic4 27 dX12_readsNumbers_27 ?_
      refine aw_icmp_geN 28 82 (k) (4) dX12_readsNumbers_28 (by decide) rfl rfl (by omega) (by omega) (fun h28 => ?_) (fun h28 => ?_)
      · refine aw_ic1 82 dX12_readsNumbers_82 ?_
        refine aw_zret 83 dX12_readsNumbers_83 rfl (by first | rfl | exact bi_nar | decide) (Nat.zero_le _) (Nat.zero_le _) ?_
        have he : k = 4 := by omega
        subst he
        have hg := rdN_good (c := 99) (Or.inl rfl) hd
        rw [hg]
        have v0 := isD_v (hd 0 (by omega))
        have v1 := isD_v (hd 1 (by omega))
        have v2 := isD_v (hd 2 (by omega))
        have v3 := isD_v (hd 3 (by omega))
        have h4 := act4 v0.1 v1.1 v2.1 v3.1
        refine ⟨rfl, ρ, hW, ho, hr6, hr8, hr7, fun _ => ⟨by rw [hr7 _ (Nat.le_refl _)]; exact h7, fun _ => ?_, fun q => absurd (Or.inl rfl) q⟩⟩
        refine ⟨?_, ?_, ?_, ?_⟩
        · exact (hdv 0 (by omega)).trans (congrArg nI h4.1.symm)
        · exact (hdv 1 (by omega)).trans (congrArg nI h4.2.1.symm)
        · exact (hdv 2 (by omega)).trans (congrArg nI h4.2.2.1.symm)
        · exact (hdv 3 (by omega)).trans (congrArg nI h4.2.2.2.symm)
      · refine aw_aload0 31 dX12_readsNumbers_31 ?_
        refine aw_iload2 32 dX12_readsNumbers_32 ?_
        refine aw_iload3 33 dX12_readsNumbers_33 ?_
        refine rw_call1 34 dX12_readsNumbers_34 (show RD mX12_isDigit rmX12_isDigit [.int (nI b), .int (nI n)] ρ (some (.int (bi (isD (fun j => τ 30 (b + j)) n (i + k))))) ρ from by have := c_X12_isDigit (τ := ρ) hbn hr8 (by omega); rwa [hT] at this) ckV_RX12_169 cd_X12_isDigit rfl hW rfl (Nat.le_of_ble_eq_true rfl) ⟨⟨by decide, by decide⟩, by decide, by decide⟩ rfl (fun M hW => ?_)
        refine aw_ifne_b 37 42 dX12_readsNumbers_37 (by decide) (fun h37 => ?_) (fun h37 => ?_)
        · have hdd2 := isD_v h37
          refine aw_aload0 42 dX12_readsNumbers_42 ?_
          refine rw_ga 43 7 dX12_readsNumbers_43 ckF_RX12_22_12 (by decide) (by decide) hW ?_
          refine aw_iload4 46 dX12_readsNumbers_46 ?_
          refine aw_iload5 48 dX12_readsNumbers_48 ?_
          refine aw_iaddN 50 (5 * m + 1) (k) dX12_readsNumbers_50 rfl rfl ?_
          refine aw_aload0 51 dX12_readsNumbers_51 ?_
          refine rw_ga 52 30 dX12_readsNumbers_52 ckF_RX12_73_12 (by decide) (by decide) hW ?_
          refine aw_iload2 55 dX12_readsNumbers_55 ?_
          refine aw_aload0 56 dX12_readsNumbers_56 ?_
          refine rw_gi 57 8 dX12_readsNumbers_57 ckF_RX12_159_12 (by decide) rfl hW ?_
          refine aw_topi (w := nI (i + k)) hr8 ?_
          refine aw_iaddN 60 (b) (i + k) dX12_readsNumbers_60 rfl rfl ?_
          refine rw_ld 61 30 (b + (i + k)) dX12_readsNumbers_61 hW rfl (show b + (i + k) < 240 by have := h37.1; omega) ?_
          refine aw_topi (w := nI (48 + dv (fun j => τ 30 (b + j)) (i + k))) (by rw [ho 30 (by decide)]; exact hdd2.2.1) ?_
          refine aw_bipush 62 48 dX12_readsNumbers_62 (by decide) ?_
          refine aw_isubN 64 (48 + dv (fun j => τ 30 (b + j)) (i + k)) (48) dX12_readsNumbers_64 rfl rfl (by omega) ?_
          refine aw_topi (w := nI (dv (fun j => τ 30 (b + j)) (i + k))) (by rw [show 48 + dv (fun j => τ 30 (b + j)) (i + k) - 48 = dv (fun j => τ 30 (b + j)) (i + k) by omega]) ?_
          refine rw_st 65 7 ((5 * m + 1) + k) dX12_readsNumbers_65 hW rfl (show (5 * m + 1) + k < 25 by omega) (fun M hW => ?_)
          refine aw_aload0 66 dX12_readsNumbers_66 ?_
          refine aw_dup 67 dX12_readsNumbers_67 rfl ?_
          refine rw_gi 68 8 dX12_readsNumbers_68 ckF_RX12_159_12 (by decide) rfl hW ?_
          refine aw_topi (w := nI (i + k)) (by rw [tu_ne (by decide)]; exact hr8) ?_
          refine aw_ic1 71 dX12_readsNumbers_71 ?_
          refine aw_iaddN 72 (i + k) (1) dX12_readsNumbers_72 rfl rfl ?_
          refine rw_pi 73 8 dX12_readsNumbers_73 ckF_RX12_159_12 ckP12_8 rfl (by decide) rfl hW (fun M hW => ?_)
          refine aw_iinc5 76 (nI (k + 1)) dX12_readsNumbers_76 (nI_1 _) rfl ?_
          refine aw_goto 79 25 dX12_readsNumbers_79 (by decide) ?_
          exact ih25 _ (by omega) (k + 1) _ M rfl (by omega) (obs_tu (obs_tu ho (by decide)) (by decide)) (by rw [tu_ne (by decide), tu_ne (by decide)]; exact hr6) (by rw [tu_at, Nat.add_assoc]) (fun j hj => by rw [tu_ne (by decide), tu_nk (by omega)]; exact hr7 j hj) (lt_s hd h37) (lt_s (fun q hq => by rw [tu_ne (by decide), tu_nk (by omega)]; exact hdv q hq) (by rw [tu_ne (by decide), tu_at])) hW
        · refine aw_ic0 40 dX12_readsNumbers_40 ?_
          refine aw_zret 41 dX12_readsNumbers_41 rfl (by first | rfl | exact bi_nar | decide) (Nat.zero_le _) (Nat.zero_le _) ?_
          have hb := rdN_bad (c := 99) (Or.inl rfl) (by omega) hd h37
          rw [hb]
          exact ⟨rfl, ρ, hW, ho, hr6, hr8, hr7, fun q => by cases q⟩
  exact LP25 _ 0 τ M rfl (by omega) (Obs.rf _) h6 h8 (fun _ _ => rfl) (fun q hq => absurd hq (by omega)) (fun q hq => absurd hq (by omega)) hW

set_option maxHeartbeats 4000000 in
set_option maxRecDepth 100000 in
theorem c98_X12_readsNumbers {τ : TT} {b n m i : Nat} (hbn : b + n ≤ 240) (hm : m < 5) (h6 : τ 6 0 = nI m) (h8 : τ 8 0 = nI i) (hi : i ≤ 60) (h7 : τ 7 (5 * m) = 98) : RP mX12_readsNumbers rmX12_readsNumbers [.int 98, .int (nI b), .int (nI n)] τ (some (.int (bi ((rdN (fun j => τ 30 (b + j)) n 98 i).1 = true)))) (rnP τ m 98 (rdN (fun j => τ 30 (b + j)) n 98 i)) := by
  intro M0 hW0
  refine am_of rfl rfl (ls := [some (.ref 25), some (.int 98), some (.int (nI b)), some (.int (nI n)), none, none, none, none]) rfl ?_
  suffices HH : ∀ M, RO τ M0 M → AW mX12_readsNumbers rmX12_readsNumbers (fun r' M' => r' = (some (.int (bi ((rdN (fun j => τ 30 (b + j)) n 98 i).1 = true)))) ∧ ∃ σ, RO σ M0 M' ∧ (rnP τ m 98 (rdN (fun j => τ 30 (b + j)) n 98 i)) σ) 0 [some (.ref 25), some (.int 98), some (.int (nI b)), some (.int (nI n)), none, none, none, none] [] M 0 0 from HH M0 ⟨hW0, Off.rf M0⟩
  intro M hW
  refine aw_ic5 0 dX12_readsNumbers_0 ?_
  refine aw_aload0 1 dX12_readsNumbers_1 ?_
  refine rw_gi 2 6 dX12_readsNumbers_2 ckF_RX12_166_12 (by decide) rfl hW ?_
  refine aw_topi (w := nI m) (h6) ?_
  refine aw_imulN 5 (5) (m) dX12_readsNumbers_5 rfl rfl ?_
  refine aw_ic1 6 dX12_readsNumbers_6 ?_
  refine aw_iaddN 7 (5 * m) (1) dX12_readsNumbers_7 rfl rfl ?_
  refine aw_istore4 8 dX12_readsNumbers_8 rfl ?_
  refine aw_iload1 10 dX12_readsNumbers_10 ?_
  refine aw_bipush 11 99 dX12_readsNumbers_11 (by decide) ?_
  refine aw_icmp_eqN 13 22 (98) (99) dX12_readsNumbers_13 (by decide) rfl rfl (by decide) (by decide) (fun h => absurd h (by decide)) (fun _ => ?_)
  refine aw_iload1 16 dX12_readsNumbers_16 ?_
  refine aw_bipush 17 98 dX12_readsNumbers_17 (by decide) ?_
  refine aw_icmp_neN 19 84 (98) (98) dX12_readsNumbers_19 (by decide) rfl rfl (by decide) (by decide) (fun h => absurd h (by decide)) (fun _ => ?_)
  refine aw_ic0 22 dX12_readsNumbers_22 ?_
  refine aw_istore5 23 dX12_readsNumbers_23 rfl ?_
  have LP25 : ∀ (dd : Nat) (k : Nat) (ρ : TT) (M : Mem), 4 - k = dd → (k ≤ 4) → (Obs ρ τ) → (ρ 6 0 = nI m) → (ρ 8 0 = nI (i + k)) → (∀ j, j ≤ 5 * m → ρ 7 j = τ 7 j) → (∀ q, q < k → isD (fun j => τ 30 (b + j)) n (i + q)) → (∀ q, q < k → ρ 7 (5 * m + 1 + q) = nI (dv (fun j => τ 30 (b + j)) (i + q))) → (RO ρ M0 M) → AW mX12_readsNumbers rmX12_readsNumbers (fun r' M' => r' = (some (.int (bi ((rdN (fun j => τ 30 (b + j)) n 98 i).1 = true)))) ∧ ∃ σ, RO σ M0 M' ∧ (rnP τ m 98 (rdN (fun j => τ 30 (b + j)) n 98 i)) σ) 25 [some (.ref 25), some (.int 98), some (.int (nI b)), some (.int (nI n)), some (.int (nI (5 * m + 1))), some (.int (nI k)), none, none] [] M 0 0 := by
    intro dd
    induction dd using Nat.strongRecOn with
    | _ dd ih25 =>
      intro k ρ M hdd hk ho hr6 hr8 hr7 hd hdv hW
      have hT : (fun j => ρ 30 (b + j)) = (fun j => τ 30 (b + j)) := by rw [ho 30 (by decide)]
      refine aw_iload5 25 dX12_readsNumbers_25 ?_
      refine aw_ic4 27 dX12_readsNumbers_27 ?_
      refine aw_icmp_geN 28 82 (k) (4) dX12_readsNumbers_28 (by decide) rfl rfl (by omega) (by omega) (fun h28 => ?_) (fun h28 => ?_)
      · refine aw_ic1 82 dX12_readsNumbers_82 ?_
        refine aw_zret 83 dX12_readsNumbers_83 rfl (by first | rfl | exact bi_nar | decide) (Nat.zero_le _) (Nat.zero_le _) ?_
        have he : k = 4 := by omega
        subst he
        have hg := rdN_good (c := 98) (Or.inr rfl) hd
        rw [hg]
        have v0 := isD_v (hd 0 (by omega))
        have v1 := isD_v (hd 1 (by omega))
        have v2 := isD_v (hd 2 (by omega))
        have v3 := isD_v (hd 3 (by omega))
        have h4 := act4 v0.1 v1.1 v2.1 v3.1
        refine ⟨rfl, ρ, hW, ho, hr6, hr8, hr7, fun _ => ⟨by rw [hr7 _ (Nat.le_refl _)]; exact h7, fun _ => ?_, fun q => absurd (Or.inr rfl) q⟩⟩
        refine ⟨?_, ?_, ?_, ?_⟩
        · exact (hdv 0 (by omega)).trans (congrArg nI h4.1.symm)
        · exact (hdv 1 (by omega)).trans (congrArg nI h4.2.1.symm)
        · exact (hdv 2 (by omega)).trans (congrArg nI h4.2.2.1.symm)
        · exact (hdv 3 (by omega)).trans (congrArg nI h4.2.2.2.symm)
      · refine aw_aload0 31 dX12_readsNumbers_31 ?_
        refine aw_iload2 32 dX12_readsNumbers_32 ?_
        refine aw_iload3 33 dX12_readsNumbers_33 ?_
        refine rw_call1 34 dX12_readsNumbers_34 (show RD mX12_isDigit rmX12_isDigit [.int (nI b), .int (nI n)] ρ (some (.int (bi (isD (fun j => τ 30 (b + j)) n (i + k))))) ρ from by have := c_X12_isDigit (τ := ρ) hbn hr8 (by omega); rwa [hT] at this) ckV_RX12_169 cd_X12_isDigit rfl hW rfl (Nat.le_of_ble_eq_true rfl) ⟨⟨by decide, by decide⟩, by decide, by decide⟩ rfl (fun M hW => ?_)
        refine aw_ifne_b 37 42 dX12_readsNumbers_37 (by decide) (fun h37 => ?_) (fun h37 => ?_)
        · have hdd2 := isD_v h37
          refine aw_aload0 42 dX12_readsNumbers_42 ?_
          refine rw_ga 43 7 dX12_readsNumbers_43 ckF_RX12_22_12 (by decide) (by decide) hW ?_
          refine aw_iload4 46 dX12_readsNumbers_46 ?_
          refine aw_iload5 48 dX12_readsNumbers_48 ?_
          refine aw_iaddN 50 (5 * m + 1) (k) dX12_readsNumbers_50 rfl rfl ?_
          refine aw_aload0 51 dX12_readsNumbers_51 ?_
          refine rw_ga 52 30 dX12_readsNumbers_52 ckF_RX12_73_12 (by decide) (by decide) hW ?_
          refine aw_iload2 55 dX12_readsNumbers_55 ?_
          refine aw_aload0 56 dX12_readsNumbers_56 ?_
          refine rw_gi 57 8 dX12_readsNumbers_57 ckF_RX12_159_12 (by decide) rfl hW ?_
          refine aw_topi (w := nI (i + k)) hr8 ?_
          refine aw_iaddN 60 (b) (i + k) dX12_readsNumbers_60 rfl rfl ?_
          refine rw_ld 61 30 (b + (i + k)) dX12_readsNumbers_61 hW rfl (show b + (i + k) < 240 by have := h37.1; omega) ?_
          refine aw_topi (w := nI (48 + dv (fun j => τ 30 (b + j)) (i + k))) (by rw [ho 30 (by decide)]; exact hdd2.2.1) ?_
          refine aw_bipush 62 48 dX12_readsNumbers_62 (by decide) ?_
          refine aw_isubN 64 (48 + dv (fun j => τ 30 (b + j)) (i + k)) (48) dX12_readsNumbers_64 rfl rfl (by omega) ?_
          refine aw_topi (w := nI (dv (fun j => τ 30 (b + j)) (i + k))) (by rw [show 48 + dv (fun j => τ 30 (b + j)) (i + k) - 48 = dv (fun j => τ 30 (b + j)) (i + k) by omega]) ?_
          refine rw_st 65 7 ((5 * m + 1) + k) dX12_readsNumbers_65 hW rfl (show (5 * m + 1) + k < 25 by omega) (fun M hW => ?_)
          refine aw_aload0 66 dX12_readsNumbers_66 ?_
          refine aw_dup 67 dX12_readsNumbers_67 rfl ?_
          refine rw_gi 68 8 dX12_readsNumbers_68 ckF_RX12_159_12 (by decide) rfl hW ?_
          refine aw_topi (w := nI (i + k)) (by rw [tu_ne (by decide)]; exact hr8) ?_
          refine aw_ic1 71 dX12_readsNumbers_71 ?_
          refine aw_iaddN 72 (i + k) (1) dX12_readsNumbers_72 rfl rfl ?_
          refine rw_pi 73 8 dX12_readsNumbers_73 ckF_RX12_159_12 ckP12_8 rfl (by decide) rfl hW (fun M hW => ?_)
          refine aw_iinc5 76 (nI (k + 1)) dX12_readsNumbers_76 (nI_1 _) rfl ?_
          refine aw_goto 79 25 dX12_readsNumbers_79 (by decide) ?_
          exact ih25 _ (by omega) (k + 1) _ M rfl (by omega) (obs_tu (obs_tu ho (by decide)) (by decide)) (by rw [tu_ne (by decide), tu_ne (by decide)]; exact hr6) (by rw [tu_at, Nat.add_assoc]) (fun j hj => by rw [tu_ne (by decide), tu_nk (by omega)]; exact hr7 j hj) (lt_s hd h37) (lt_s (fun q hq => by rw [tu_ne (by decide), tu_nk (by omega)]; exact hdv q hq) (by rw [tu_ne (by decide), tu_at])) hW
        · refine aw_ic0 40 dX12_readsNumbers_40 ?_
          refine aw_zret 41 dX12_readsNumbers_41 rfl (by first | rfl | exact bi_nar | decide) (Nat.zero_le _) (Nat.zero_le _) ?_
          have hb := rdN_bad (c := 98) (Or.inr rfl) (by omega) hd h37
          rw [hb]
          exact ⟨rfl, ρ, hW, ho, hr6, hr8, hr7, fun q => by cases q⟩
  exact LP25 _ 0 τ M rfl (by omega) (Obs.rf _) h6 h8 (fun _ _ => rfl) (fun q hq => absurd hq (by omega)) (fun q hq => absurd hq (by omega)) hW

