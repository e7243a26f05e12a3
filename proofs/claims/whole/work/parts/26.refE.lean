/-! reading acts: the words of it, and the reference's digits (gen/refE.py) -/
abbrev isD (t : Nat → Int32) (n i : Nat) : Prop := i < n ∧ irg (t i) 48 57
def dv (t : Nat → Int32) (i : Nat) : Nat := ((t i).toInt - 48).toNat
theorem isD_v {t : Nat → Int32} {n i : Nat} (h : isD t n i) : dv t i ≤ 9 ∧ t i = nI (48 + dv t i) ∧ t i - 48 = nI (dv t i) := by
  have h1 : t i = nI (48 + dv t i) := by
    obtain ⟨z, hz, he⟩ := ir_of (v := t i) (n := 58) ⟨by have := h.2.1; omega, by have := h.2.2; omega⟩ (by decide)
    have h3 := h.2.1
    have h4 : (t i).toInt = z := by rw [he, nI_toInt (by omega)]
    rw [h4] at h3
    unfold dv
    rw [h4, he]
    congr 1
    omega
  refine ⟨?_, h1, ?_⟩
  · unfold dv
    have := h.2.2
    omega
  · rw [h1, show (48 : Int32) = nI 48 from rfl, pk_sub (by omega), show 48 + dv t i - 48 = dv t i by omega]
/-- the numbers behind a code: whether they are right, where the reader stands then, the number -/
def rdN (t : Nat → Int32) (n : Nat) (c : Int32) (i : Nat) : Bool × Nat × Nat :=
  if c = 99 ∨ c = 98 then
    if ¬ isD t n i then (false, i, 0) else if ¬ isD t n (i + 1) then (false, i + 1, 0) else if ¬ isD t n (i + 2) then (false, i + 2, 0) else if ¬ isD t n (i + 3) then (false, i + 3, 0)
    else (true, i + 4, 1000 * dv t i + 100 * dv t (i + 1) + 10 * dv t (i + 2) + dv t (i + 3))
  else if c = 116 then (true, i, 0)
  else if c = 113 then if isD t n i ∧ 2 ≤ dv t i then (true, i + 1, dv t i) else (false, i, 0)
  else if ¬ isD t n i then (false, i, 0) else if ¬ isD t n (i + 1) then (if dv t i = 0 then (false, i, 0) else (true, i + 1, dv t i))
  else if 10 * dv t i + dv t (i + 1) = 0 then (false, i, 0) else (true, i + 2, 10 * dv t i + dv t (i + 1))
abbrev isKd (c : Int32) : Prop := c = 99 ∨ c = 98 ∨ c = 116 ∨ c = 108 ∨ c = 109 ∨ c = 113
def cdA (t : Nat → Int32) (n i : Nat) : Int32 := if i < n then t i else 0
def rdA (t : Nat → Int32) (n : Nat) : Nat → Nat → List (Int32 × Nat) → Nat ⊕ List (Int32 × Nat)
  | 0, i, _ => .inl i
  | f + 1, i, acc => if ¬ isKd (cdA t n i) then .inl i else if (rdN t n (cdA t n i) (i + 1)).1 = false then .inl (rdN t n (cdA t n i) (i + 1)).2.1
    else if n ≤ (rdN t n (cdA t n i) (i + 1)).2.1 then .inr (acc ++ [(cdA t n i, (rdN t n (cdA t n i) (i + 1)).2.2)])
    else if ¬ t (rdN t n (cdA t n i) (i + 1)).2.1 = 59 ∨ f = 0 then .inl (rdN t n (cdA t n i) (i + 1)).2.1
    else rdA t n f ((rdN t n (cdA t n i) (i + 1)).2.1 + 1) (acc ++ [(cdA t n i, (rdN t n (cdA t n i) (i + 1)).2.2)])
/-- the reference's five numbers of an act -/
def actR (A : Nat → Int32) (a : Nat) (q : Int32 × Nat) : Prop := A a = q.1 ∧ ((q.1 = 99 ∨ q.1 = 98) → A (a + 1) = nI (q.2 / 1000) ∧ A (a + 2) = nI (q.2 / 100 % 10) ∧ A (a + 3) = nI (q.2 / 10 % 10) ∧ A (a + 4) = nI (q.2 % 10)) ∧ (¬ (q.1 = 99 ∨ q.1 = 98) → A (a + 1) = nI q.2)
def RP (Z : YY) (rm : Room) (as : List Value) (τ : TT) (r : Option Value) (P : TT → Prop) : Prop := ∀ M, RW τ M → AM Z rm (.ref 25 :: as) M (fun r' M' => r' = r ∧ ∃ σ, RO σ M M' ∧ P σ)
section
variable {Y : YY} {R : Room} {Q : Option Value → Mem → Prop} {ls : List (Option Value)} {st : List Value} {M M0 : Mem} {cs ss : Nat} {τ : TT}
theorem rp_call1 (pc : Nat) {Z : YY} {rm : Room} {as st0 : List Value} {r : Value} {P : TT → Prop} {idx : Nat} (hd : decode Y.2.1 pc = .ok (.invokevirtual idx, 3)) (hM : RP Z rm as τ (some r) P) (ck : ckV Y.1.cls idx Z as.length = true) (hcd : inTbl Z) (hcl : Z.1.cls = RX12) (hW : RO τ M0 M) (hst : st0 = as.reverse ++ .ref 25 :: st) (hw : (st.map fun v => v.category).sum ≤ 8) (hR1 : rmOK R rm Z cs ss) (hz : (rm.cells, rm.slots) = (0, 0))
    (kk : ∀ σ M, P σ → RO σ M0 M → AW Y R Q (pc + 3) ls (r :: st) M cs ss) : AW Y R Q pc ls st0 M cs ss :=
  aw_virt pc hd ck hcd hW.1.1 (show vwCl[12]? = some (RX12, TX12, 33) from rfl) hcl (hM M hW.1) hst hw hR1 (fun r' M' q => by
    obtain ⟨rfl, σ, q2, q3⟩ := q
    rw [(Prod.mk.inj hz).1, (Prod.mk.inj hz).2]
    exact kk σ M' q3 ⟨q2.1, hW.2.trans q2.2⟩)
end

def rmX12_isDigit : Room := { frames := 1, cells := 0, slots := 0, locals := 25 }
set_option maxHeartbeats 4000000 in
set_option maxRecDepth 100000 in
theorem c_X12_isDigit {τ : TT} {b n i : Nat} (hbn : b + n ≤ 240) (hi : τ 8 0 = nI i) (hi2 : i ≤ 100) : RD mX12_isDigit rmX12_isDigit [.int (nI b), .int (nI n)] τ (some (.int (bi (isD (fun j => τ 30 (b + j)) n i)))) (τ) := by
  intro M0 hW0
  refine am_of rfl rfl (ls := [some (.ref 25), some (.int (nI b)), some (.int (nI n))]) rfl ?_
  suffices HH : ∀ M, RO τ M0 M → AW mX12_isDigit rmX12_isDigit (fun r' M' => r' = (some (.int (bi (isD (fun j => τ 30 (b + j)) n i)))) ∧ RO (τ) M0 M') 0 [some (.ref 25), some (.int (nI b)), some (.int (nI n))] [] M 0 0 from HH M0 ⟨hW0, Off.rf M0⟩
  intro M hW
  refine aw_aload0 0 dX12_isDigit_0 ?_
  refine rw_gi 1 8 dX12_isDigit_1 ckF_RX12_159_12 (by decide) rfl hW ?_
  refine aw_topi (w := nI i) (hi) ?_
  refine aw_iload2 4 dX12_isDigit_4 ?_
  refine aw_icmp_geN 5 36 (i) (n) dX12_isDigit_5 (by decide) rfl rfl (by omega) (by omega) (fun h5 => ?_) (fun h5 => ?_)
  · refine aw_ic0 36 dX12_isDigit_36 ?_
    refine aw_zret 37 dX12_isDigit_37 rfl (by first | rfl | exact bi_nar | decide) (Nat.zero_le _) (Nat.zero_le _) ?_
    refine ⟨?_, hW⟩
    first
      | (rw [bi_f (nl (Nat.not_lt.mpr h5))]; done)
      | (rw [bi_f (nr h29)]; done)
      | (rw [bi_t (And.intro h5 h29)]; done)
  · refine aw_aload0 8 dX12_isDigit_8 ?_
    refine rw_ga 9 30 dX12_isDigit_9 ckF_RX12_73_12 (by decide) (by decide) hW ?_
    refine aw_iload1 12 dX12_isDigit_12 ?_
    refine aw_aload0 13 dX12_isDigit_13 ?_
    refine rw_gi 14 8 dX12_isDigit_14 ckF_RX12_159_12 (by decide) rfl hW ?_
    refine aw_topi (w := nI i) (hi) ?_
    refine aw_iaddN 17 (b) (i) dX12_isDigit_17 rfl rfl ?_
    refine rw_ld 18 30 (b + i) dX12_isDigit_18 hW rfl (show b + i < 240 by omega) ?_
    refine aw_i2l 19 dX12_isDigit_19 ?_
    refine aw_ldc2 20 (48) dX12_isDigit_20 ckL_RX12_162 ?_
    refine aw_ldc2 23 (57) dX12_isDigit_23 ckL_RX12_164 ?_
    refine sd_call1 26 dX12_isDigit_26 (c_in2 (48) (57) (by decide) (by decide)) ckS_RX12_99 cd_X12_in rfl (Nat.le_of_ble_eq_true rfl) ⟨⟨by decide, by decide⟩, by decide, by decide⟩ rfl ?_
    refine aw_ifeq_b 29 36 dX12_isDigit_29 (by decide) (fun h29 => ?_) (fun h29 => ?_)
    · refine aw_ic0 36 dX12_isDigit_36 ?_
      refine aw_zret 37 dX12_isDigit_37 rfl (by first | rfl | exact bi_nar | decide) (Nat.zero_le _) (Nat.zero_le _) ?_
      refine ⟨?_, hW⟩
      first
        | (rw [bi_f (nl (Nat.not_lt.mpr h5))]; done)
        | (rw [bi_f (nr h29)]; done)
        | (rw [bi_t (And.intro h5 h29)]; done)
    · refine aw_ic1 32 dX12_isDigit_32 ?_
      refine aw_goto 33 37 dX12_isDigit_33 (by decide) ?_
      refine aw_zret 37 dX12_isDigit_37 rfl (by first | rfl | exact bi_nar | decide) (Nat.zero_le _) (Nat.zero_le _) ?_
      refine ⟨?_, hW⟩
      first
        | (rw [bi_f (nl (Nat.not_lt.mpr h5))]; done)
        | (rw [bi_f (nr h29)]; done)
        | (rw [bi_t (And.intro h5 h29)]; done)

def rnP (τ : TT) (m : Nat) (c : Int32) (q : Bool × Nat × Nat) (σ : TT) : Prop := Obs σ τ ∧ σ 6 0 = nI m ∧ σ 8 0 = nI q.2.1 ∧ (∀ j, j ≤ 5 * m → σ 7 j = τ 7 j) ∧ (q.1 = true → actR (σ 7) (5 * m) (c, q.2.2))
theorem obs_tu {σ τ : TT} {i k : Nat} {v : Int32} (h : Obs σ τ) (hs : scr i) : Obs (tu σ i k v) τ := fun j hj => by
  rw [tu_ne (show j ≠ i from fun e => hj (by rw [e]; exact hs))]
  exact h j hj
theorem rdN_bad {t : Nat → Int32} {n : Nat} {c : Int32} {i k : Nat} (hc : c = 99 ∨ c = 98) (hk : k < 4) (hd : ∀ q, q < k → isD t n (i + q)) (hb : ¬ isD t n (i + k)) : rdN t n c i = (false, i + k, 0) := by
  unfold rdN
  rw [if_pos hc]
  rcases (show k = 0 ∨ k = 1 ∨ k = 2 ∨ k = 3 by omega) with rfl | rfl | rfl | rfl
  · rw [if_pos (show ¬ isD t n i from hb)]; rfl
  · rw [if_neg (nn (show isD t n i from hd 0 (by omega))), if_pos hb]
  · rw [if_neg (nn (show isD t n i from hd 0 (by omega))), if_neg (nn (hd 1 (by omega))), if_pos hb]
  · rw [if_neg (nn (show isD t n i from hd 0 (by omega))), if_neg (nn (hd 1 (by omega))), if_neg (nn (hd 2 (by omega))), if_pos hb]
theorem rdN_good {t : Nat → Int32} {n : Nat} {c : Int32} {i : Nat} (hc : c = 99 ∨ c = 98) (hd : ∀ q, q < 4 → isD t n (i + q)) : rdN t n c i = (true, i + 4, 1000 * dv t i + 100 * dv t (i + 1) + 10 * dv t (i + 2) + dv t (i + 3)) := by
  unfold rdN
  rw [if_pos hc, if_neg (nn (show isD t n i from hd 0 (by omega))), if_neg (nn (hd 1 (by omega))), if_neg (nn (hd 2 (by omega))), if_neg (nn (hd 3 (by omega)))]
theorem act4 {a b c d : Nat} (ha : a ≤ 9) (hb : b ≤ 9) (hc : c ≤ 9) (hd : d ≤ 9) : (1000 * a + 100 * b + 10 * c + d) / 1000 = a ∧ (1000 * a + 100 * b + 10 * c + d) / 100 % 10 = b ∧ (1000 * a + 100 * b + 10 * c + d) / 10 % 10 = c ∧ (1000 * a + 100 * b + 10 * c + d) % 10 = d := by omega

def rmX12_readsNumbers : Room := { frames := 2, cells := 0, slots := 0, locals := 47 }
set_option maxHeartbeats 4000000 in
set_option maxRecDepth 100000 in
theorem c99_X12_readsNumbers {τ : TT} {b n m i : Nat} (hbn : b + n ≤ 240) (hm : m < 5) (h6 : τ 6 0 = nI m) (h8 : τ 8 0 = nI i) (hi : i ≤ 60) (h7 : τ 7 (5 * m) = 99) : RP mX12_readsNumbers rmX12_readsNumbers [.int 99, .int (nI b), .int (nI n)] τ (some (.int (bi ((rdN (fun j => τ 30 (b + j)) n 99 i).1 = true)))) (rnP τ m 99 (rdN (fun j => τ 30 (b + j)) n 99 i)) := by
  intro M0 hW0
  refine am_of rfl rfl (ls := [some (.ref 25), some (.int 99), some (.int (nI b)), some (.int (nI n)), none, none, none, none]) rfl ?_
  suffices HH : ∀ M, RO τ M0 M → AW mX12_readsNumbers rmX12_readsNumbers (fun r' M' => r' = (some (.int (bi ((rdN (fun j => τ 30 (b + j)) n 99 i).1 = true)))) ∧ ∃ σ, RO σ M0 M' ∧ (rnP τ m 99 (rdN (fun j => τ 30 (b + j)) n 99 i)) σ) 0 [some (.ref 25), some (.int 99), some (.int (nI b)), some (.int (nI n)), none, none, none, none] [] M 0 0 from HH M0 ⟨hW0, Off.rf M0⟩
  intro M hW
  refine aw_ic5 0 dX12_readsNumbers_0 ?_
  refine aw_aload0 1 dX12_readsNumbers_1 ?_
  refine rw_gi 2 6 dX12_readsNumbers_2 ckF_RX12_166_12 (by decide) rfl hW ?_
  refine aw_topi (w := nI m) (h6) ?_
  refine aw_imulN 5 (5) (m) dX12_readsNumbers_5 rfl rfl ?_
  refine aw_ic1 6 dX12_readsNumbers_6 ?_
  refine aw_iaddN 7 (5 * m) (1) dX12_readsNumbers_7 rfl rfl ?_
  refine aw_istore4 8 dX12_readsNumbers_8 rfl ?_
  refine aw_iload1 10 dX12_readsNumbers_10 ?_
  refine aw_bipush 11 99 dX12_readsNumbers_11 (by decide) ?_
  refine aw_icmp_eqN 13 22 (99) (99) dX12_readsNumbers_13 (by decide) rfl rfl (by decide) (by decide) (fun _ => ?_) (fun h => absurd h (by decide))
  refine aw_ic0 22 dX12_readsNumbers_22 ?_
  refine aw_istore5 23 dX12_readsNumbers_23 rfl ?_
  have LP25 : ∀ (dd : Nat) (k : Nat) (ρ : TT) (M : Mem), 4 - k = dd → (k ≤ 4) → (Obs ρ τ) → (ρ 6 0 = nI m) → (ρ 8 0 = nI (i + k)) → (∀ j, j ≤ 5 * m → ρ 7 j = τ 7 j) → (∀ q, q < k → isD (fun j => τ 30 (b + j)) n (i + q)) → (∀ q, q < k → ρ 7 (5 * m + 1 + q) = nI (dv (fun j => τ 30 (b + j)) (i + q))) → (RO ρ M0 M) → AW mX12_readsNumbers rmX12_readsNumbers (fun r' M' => r' = (some (.int (bi ((rdN (fun j => τ 30 (b + j)) n 99 i).1 = true)))) ∧ ∃ σ, RO σ M0 M' ∧ (rnP τ m 99 (rdN (fun j => τ 30 (b + j)) n 99 i)) σ) 25 [some (.ref 25), some (.int 99), some (.int (nI b)), some (.int (nI n)), some (.int (nI (5 * m + 1))), some (.int (nI k)), none, none] [] M 0 0 := by
    intro dd
    induction dd using Nat.strongRecOn with
    | _ dd ih25 =>
      intro k ρ M hdd hk ho hr6 hr8 hr7 hd hdv hW
      have hT : (fun j => ρ 30 (b + j)) = (fun j => τ 30 (b + j)) := by rw [ho 30 (by decide)]
      refine aw_iload5 25 dX12_readsNumbers_25 ?_
      refine aw_ic4 27 dX12_readsNumbers_27 ?_
      refine aw_icmp_geN 28 82 (k) (4) dX12_readsNumbers_28 (by decide) rfl rfl (by omega) (by omega) (fun h28 => ?_) (fun h28 => ?_)
      · refine aw_ic1 82 dX12_readsNumbers_82 ?_
        refine aw_zret 83 dX12_readsNumbers_83 rfl (by first | rfl | exact bi_nar | decide) (Nat.zero_le _) (Nat.zero_le _) ?_
        have he : k = 4 := by omega
        subst he
        have hg := rdN_good (c := 99) (Or.inl rfl) hd
        rw [hg]
        have v0 := isD_v (hd 0 (by omega))
        have v1 := isD_v (hd 1 (by omega))
        have v2 := isD_v (hd 2 (by omega))
        have v3 := isD_v (hd 3 (by omega))
        have h4 := act4 v0.1 v1.1 v2.1 v3.1
        refine ⟨rfl, ρ, hW, ho, hr6, hr8, hr7, fun _ => ⟨by rw [hr7 _ (Nat.le_refl _)]; exact h7, fun _ => ?_, fun q => absurd (Or.inl rfl) q⟩⟩
        refine ⟨?_, ?_, ?_, ?_⟩
        · exact (hdv 0 (by omega)).trans (congrArg nI h4.1.symm)
        · exact (hdv 1 (by omega)).trans (congrArg nI h4.2.1.symm)
        · exact (hdv 2 (by omega)).trans (congrArg nI h4.2.2.1.symm)
        · exact (hdv 3 (by omega)).trans (congrArg nI h4.2.2.2.symm)
      · refine aw_aload0 31 dX12_readsNumbers_31 ?_
        refine aw_iload2 32 dX12_readsNumbers_32 ?_
        refine aw_iload3 33 dX12_readsNumbers_33 ?_
        refine rw_call1 34 dX12_readsNumbers_34 (show RD mX12_isDigit rmX12_isDigit [.int (nI b), .int (nI n)] ρ (some (.int (bi (isD (fun j => τ 30 (b + j)) n (i + k))))) ρ from by have := c_X12_isDigit (τ := ρ) hbn hr8 (by omega); rwa [hT] at this) ckV_RX12_169 cd_X12_isDigit rfl hW rfl (Nat.le_of_ble_eq_true rfl) ⟨⟨by decide, by decide⟩, by decide, by decide⟩ rfl (fun M hW => ?_)
        refine aw_ifne_b 37 42 dX12_readsNumbers_37 (by decide) (fun h37 => ?_) (fun h37 => ?_)
        · have hdd2 := isD_v h37
          refine aw_aload0 42 dX12_readsNumbers_42 ?_
          refine rw_ga 43 7 dX12_readsNumbers_43 ckF_RX12_22_12 (by decide) (by decide) hW ?_
          refine aw_iload4 46 dX12_readsNumbers_46 ?_
          refine aw_iload5 48 dX12_readsNumbers_48 ?_
          refine aw_iaddN 50 (5 * m + 1) (k) dX12_readsNumbers_50 rfl rfl ?_
          refine aw_aload0 51 dX12_readsNumbers_51 ?_
          refine rw_ga 52 30 dX12_readsNumbers_52 ckF_RX12_73_12 (by decide) (by decide) hW ?_
          refine aw_iload2 55 dX12_readsNumbers_55 ?_
          refine aw_aload0 56 dX12_readsNumbers_56 ?_
          refine rw_gi 57 8 dX12_readsNumbers_57 ckF_RX12_159_12 (by decide) rfl hW ?_
          refine aw_topi (w := nI (i + k)) hr8 ?_
          refine aw_iaddN 60 (b) (i + k) dX12_readsNumbers_60 rfl rfl ?_
          refine rw_ld 61 30 (b + (i + k)) dX12_readsNumbers_61 hW rfl (show b + (i + k) < 240 by have := h37.1; omega) ?_
          refine aw_topi (w := nI (48 + dv (fun j => τ 30 (b + j)) (i + k))) (by rw [ho 30 (by decide)]; exact hdd2.2.1) ?_
          refine aw_bipush 62 48 dX12_readsNumbers_62 (by decide) ?_
          refine aw_isubN 64 (48 + dv (fun j => τ 30 (b + j)) (i + k)) (48) dX12_readsNumbers_64 rfl rfl (by omega) ?_
          refine aw_topi (w := nI (dv (fun j => τ 30 (b + j)) (i + k))) (by rw [show 48 + dv (fun j => τ 30 (b + j)) (i + k) - 48 = dv (fun j => τ 30 (b + j)) (i + k) by omega]) ?_
          refine rw_st 65 7 ((5 * m + 1) + k) dX12_readsNumbers_65 hW rfl (show (5 * m + 1) + k < 25 by omega) (fun M hW => ?_)
          refine aw_aload0 66 dX12_readsNumbers_66 ?_
          refine aw_dup 67 dX12_readsNumbers_67 rfl ?_
          refine rw_gi 68 8 dX12_readsNumbers_68 ckF_RX12_159_12 (by decide) rfl hW ?_
          refine aw_topi (w := nI (i + k)) (by rw [tu_ne (by decide)]; exact hr8) ?_
          refine aw_ic1 71 dX12_readsNumbers_71 ?_
          refine aw_iaddN 72 (i + k) (1) dX12_readsNumbers_72 rfl rfl ?_
          refine rw_pi 73 8 dX12_readsNumbers_73 ckF_RX12_159_12 ckP12_8 rfl (by decide) rfl hW (fun M hW => ?_)
          refine aw_iinc5 76 (nI (k + 1)) dX12_readsNumbers_76 (nI_1 _) rfl ?_
          refine aw_goto 79 25 dX12_readsNumbers_79 (by decide) ?_
          exact ih25 _ (by omega) (k + 1) _ M rfl (by omega) (obs_tu (obs_tu ho (by decide)) (by decide)) (by rw [tu_ne (by decide), tu_ne (by decide)]; exact hr6) (by rw [tu_at, Nat.add_assoc]) (fun j hj => by rw [tu_ne (by decide), tu_nk (by omega)]; exact hr7 j hj) (lt_s hd h37) (lt_s (fun q hq => by rw [tu_ne (by decide), tu_nk (by omega)]; exact hdv q hq) (by rw [tu_ne (by decide), tu_at])) hW
        · refine aw_ic0 40 dX12_readsNumbers_40 ?_
          refine aw_zret 41 dX12_readsNumbers_41 rfl (by first | rfl | exact bi_nar | decide) (Nat.zero_le _) (Nat.zero_le _) ?_
          have hb := rdN_bad (c := 99) (Or.inl rfl) (by omega) hd h37
          rw [hb]
          exact ⟨rfl, ρ, hW, ho, hr6, hr8, hr7, fun q => by cases q⟩
  exact LP25 _ 0 τ M rfl (by omega) (Obs.rf _) h6 h8 (fun _ _ => rfl) (fun q hq => absurd hq (by omega)) (fun q hq => absurd hq (by omega)) hW

set_option maxHeartbeats 4000000 in
set_option maxRecDepth 100000 in
theorem c98_X12_readsNumbers {τ : TT} {b n m i : Nat} (hbn : b + n ≤ 240) (hm : m < 5) (h6 : τ 6 0 = nI m) (h8 : τ 8 0 = nI i) (hi : i ≤ 60) (h7 : τ 7 (5 * m) = 98) : RP mX12_readsNumbers rmX12_readsNumbers [.int 98, .int (nI b), .int (nI n)] τ (some (.int (bi ((rdN (fun j => τ 30 (b + j)) n 98 i).1 = true)))) (rnP τ m 98 (rdN (fun j => τ 30 (b + j)) n 98 i)) := by
  intro M0 hW0
  refine am_of rfl rfl (ls := [some (.ref 25), some (.int 98), some (.int (nI b)), some (.int (nI n)), none, none, none, none]) rfl ?_
  suffices HH : ∀ M, RO τ M0 M → AW mX12_readsNumbers rmX12_readsNumbers (fun r' M' => r' = (some (.int (bi ((rdN (fun j => τ 30 (b + j)) n 98 i).1 = true)))) ∧ ∃ σ, RO σ M0 M' ∧ (rnP τ m 98 (rdN (fun j => τ 30 (b + j)) n 98 i)) σ) 0 [some (.ref 25), some (.int 98), some (.int (nI b)), some (.int (nI n)), none, none, none, none] [] M 0 0 from HH M0 ⟨hW0, Off.rf M0⟩
  intro M hW
  refine aw_ic5 0 dX12_readsNumbers_0 ?_
  refine aw_aload0 1 dX12_readsNumbers_1 ?_
  refine rw_gi 2 6 dX12_readsNumbers_2 ckF_RX12_166_12 (by decide) rfl hW ?_
  refine aw_topi (w := nI m) (h6) ?_
  refine aw_imulN 5 (5) (m) dX12_readsNumbers_5 rfl rfl ?_
  refine aw_ic1 6 dX12_readsNumbers_6 ?_
  refine aw_iaddN 7 (5 * m) (1) dX12_readsNumbers_7 rfl rfl ?_
  refine aw_istore4 8 dX12_readsNumbers_8 rfl ?_
  refine aw_iload1 10 dX12_readsNumbers_10 ?_
  refine aw_bipush 11 99 dX12_readsNumbers_11 (by decide) ?_
  refine aw_icmp_eqN 13 22 (98) (99) dX12_readsNumbers_13 (by decide) rfl rfl (by decide) (by decide) (fun h => absurd h (by decide)) (fun _ => ?_)
  refine aw_iload1 16 dX12_readsNumbers_16 ?_
  refine aw_bipush 17 98 dX12_readsNumbers_17 (by decide) ?_
  refine aw_icmp_neN 19 84 (98) (98) dX12_readsNumbers_19 (by decide) rfl rfl (by decide) (by decide) (fun h => absurd h (by decide)) (fun _ => ?_)
  refine aw_ic0 22 dX12_readsNumbers_22 ?_
  refine aw_istore5 23 dX12_readsNumbers_23 rfl ?_
  have LP25 : ∀ (dd : Nat) (k : Nat) (ρ : TT) (M : Mem), 4 - k = dd → (k ≤ 4) → (Obs ρ τ) → (ρ 6 0 = nI m) → (ρ 8 0 = nI (i + k)) → (∀ j, j ≤ 5 * m → ρ 7 j = τ 7 j) → (∀ q, q < k → isD (fun j => τ 30 (b + j)) n (i + q)) → (∀ q, q < k → ρ 7 (5 * m + 1 + q) = nI (dv (fun j => τ 30 (b + j)) (i + q))) → (RO ρ M0 M) → AW mX12_readsNumbers rmX12_readsNumbers (fun r' M' => r' = (some (.int (bi ((rdN (fun j => τ 30 (b + j)) n 98 i).1 = true)))) ∧ ∃ σ, RO σ M0 M' ∧ (rnP τ m 98 (rdN (fun j => τ 30 (b + j)) n 98 i)) σ) 25 [some (.ref 25), some (.int 98), some (.int (nI b)), some (.int (nI n)), some (.int (nI (5 * m + 1))), some (.int (nI k)), none, none] [] M 0 0 := by
    intro dd
    induction dd using Nat.strongRecOn with
    | _ dd ih25 =>
      intro k ρ M hdd hk ho hr6 hr8 hr7 hd hdv hW
      have hT : (fun j => ρ 30 (b + j)) = (fun j => τ 30 (b + j)) := by rw [ho 30 (by decide)]
      refine aw_iload5 25 dX12_readsNumbers_25 ?_
      refine aw_ic4 27 dX12_readsNumbers_27 ?_
      refine aw_icmp_geN 28 82 (k) (4) dX12_readsNumbers_28 (by decide) rfl rfl (by omega) (by omega) (fun h28 => ?_) (fun h28 => ?_)
      · refine aw_ic1 82 dX12_readsNumbers_82 ?_
        refine aw_zret 83 dX12_readsNumbers_83 rfl (by first | rfl | exact bi_nar | decide) (Nat.zero_le _) (Nat.zero_le _) ?_
        have he : k = 4 := by omega
        subst he
        have hg := rdN_good (c := 98) (Or.inr rfl) hd
        rw [hg]
        have v0 := isD_v (hd 0 (by omega))
        have v1 := isD_v (hd 1 (by omega))
        have v2 := isD_v (hd 2 (by omega))
        have v3 := isD_v (hd 3 (by omega))
        have h4 := act4 v0.1 v1.1 v2.1 v3.1
        refine ⟨rfl, ρ, hW, ho, hr6, hr8, hr7, fun _ => ⟨by rw [hr7 _ (Nat.le_refl _)]; exact h7, fun _ => ?_, fun q => absurd (Or.inr rfl) q⟩⟩
        refine ⟨?_, ?_, ?_, ?_⟩
        · exact (hdv 0 (by omega)).trans (congrArg nI h4.1.symm)
        · exact (hdv 1 (by omega)).trans (congrArg nI h4.2.1.symm)
        · exact (hdv 2 (by omega)).trans (congrArg nI h4.2.2.1.symm)
        · exact (hdv 3 (by omega)).trans (congrArg nI h4.2.2.2.symm)
      · refine aw_aload0 31 dX12_readsNumbers_31 ?_
        refine aw_iload2 32 dX12_readsNumbers_32 ?_
        refine aw_iload3 33 dX12_readsNumbers_33 ?_
        refine rw_call1 34 dX12_readsNumbers_34 (show RD mX12_isDigit rmX12_isDigit [.int (nI b), .int (nI n)] ρ (some (.int (bi (isD (fun j => τ 30 (b + j)) n (i + k))))) ρ from by have := c_X12_isDigit (τ := ρ) hbn hr8 (by omega); rwa [hT] at this) ckV_RX12_169 cd_X12_isDigit rfl hW rfl (Nat.le_of_ble_eq_true rfl) ⟨⟨by decide, by decide⟩, by decide, by decide⟩ rfl (fun M hW => ?_)
        refine aw_ifne_b 37 42 dX12_readsNumbers_37 (by decide) (fun h37 => ?_) (fun h37 => ?_)
        · have hdd2 := isD_v h37
          refine aw_aload0 42 dX12_readsNumbers_42 ?_
          refine rw_ga 43 7 dX12_readsNumbers_43 ckF_RX12_22_12 (by decide) (by decide) hW ?_
          refine aw_iload4 46 dX12_readsNumbers_46 ?_
          refine aw_iload5 48 dX12_readsNumbers_48 ?_
          refine aw_iaddN 50 (5 * m + 1) (k) dX12_readsNumbers_50 rfl rfl ?_
          refine aw_aload0 51 dX12_readsNumbers_51 ?_
          refine rw_ga 52 30 dX12_readsNumbers_52 ckF_RX12_73_12 (by decide) (by decide) hW ?_
          refine aw_iload2 55 dX12_readsNumbers_55 ?_
          refine aw_aload0 56 dX12_readsNumbers_56 ?_
          refine rw_gi 57 8 dX12_readsNumbers_57 ckF_RX12_159_12 (by decide) rfl hW ?_
          refine aw_topi (w := nI (i + k)) hr8 ?_
          refine aw_iaddN 60 (b) (i + k) dX12_readsNumbers_60 rfl rfl ?_
          refine rw_ld 61 30 (b + (i + k)) dX12_readsNumbers_61 hW rfl (show b + (i + k) < 240 by have := h37.1; omega) ?_
          refine aw_topi (w := nI (48 + dv (fun j => τ 30 (b + j)) (i + k))) (by rw [ho 30 (by decide)]; exact hdd2.2.1) ?_
          refine aw_bipush 62 48 dX12_readsNumbers_62 (by decide) ?_
          refine aw_isubN 64 (48 + dv (fun j => τ 30 (b + j)) (i + k)) (48) dX12_readsNumbers_64 rfl rfl (by omega) ?_
          refine aw_topi (w := nI (dv (fun j => τ 30 (b + j)) (i + k))) (by rw [show 48 + dv (fun j => τ 30 (b + j)) (i + k) - 48 = dv (fun j => τ 30 (b + j)) (i + k) by omega]) ?_
          refine rw_st 65 7 ((5 * m + 1) + k) dX12_readsNumbers_65 hW rfl (show (5 * m + 1) + k < 25 by omega) (fun M hW => ?_)
          refine aw_aload0 66 dX12_readsNumbers_66 ?_
          refine aw_dup 67 dX12_readsNumbers_67 rfl ?_
          refine rw_gi 68 8 dX12_readsNumbers_68 ckF_RX12_159_12 (by decide) rfl hW ?_
          refine aw_topi (w := nI (i + k)) (by rw [tu_ne (by decide)]; exact hr8) ?_
          refine aw_ic1 71 dX12_readsNumbers_71 ?_
          refine aw_iaddN 72 (i + k) (1) dX12_readsNumbers_72 rfl rfl ?_
          refine rw_pi 73 8 dX12_readsNumbers_73 ckF_RX12_159_12 ckP12_8 rfl (by decide) rfl hW (fun M hW => ?_)
          refine aw_iinc5 76 (nI (k + 1)) dX12_readsNumbers_76 (nI_1 _) rfl ?_
          refine aw_goto 79 25 dX12_readsNumbers_79 (by decide) ?_
          exact ih25 _ (by omega) (k + 1) _ M rfl (by omega) (obs_tu (obs_tu ho (by decide)) (by decide)) (by rw [tu_ne (by decide), tu_ne (by decide)]; exact hr6) (by rw [tu_at, Nat.add_assoc]) (fun j hj => by rw [tu_ne (by decide), tu_nk (by omega)]; exact hr7 j hj) (lt_s hd h37) (lt_s (fun q hq => by rw [tu_ne (by decide), tu_nk (by omega)]; exact hdv q hq) (by rw [tu_ne (by decide), tu_at])) hW
        · refine aw_ic0 40 dX12_readsNumbers_40 ?_
          refine aw_zret 41 dX12_readsNumbers_41 rfl (by first | rfl | exact bi_nar | decide) (Nat.zero_le _) (Nat.zero_le _) ?_
          have hb := rdN_bad (c := 98) (Or.inr rfl) (by omega) hd h37
          rw [hb]
          exact ⟨rfl, ρ, hW, ho, hr6, hr8, hr7, fun q => by cases q⟩
  exact LP25 _ 0 τ M rfl (by omega) (Obs.rf _) h6 h8 (fun _ _ => rfl) (fun q hq => absurd hq (by omega)) (fun q hq => absurd hq (by omega)) hW

set_option maxHeartbeats 4000000 in
set_option maxRecDepth 100000 in
theorem c116_X12_readsNumbers {τ : TT} {b n m i : Nat} (hbn : b + n ≤ 240) (hm : m < 5) (h6 : τ 6 0 = nI m) (h8 : τ 8 0 = nI i) (hi : i ≤ 60) (h7 : τ 7 (5 * m) = 116) : RP mX12_readsNumbers rmX12_readsNumbers [.int 116, .int (nI b), .int (nI n)] τ (some (.int (bi ((rdN (fun j => τ 30 (b + j)) n 116 i).1 = true)))) (rnP τ m 116 (rdN (fun j => τ 30 (b + j)) n 116 i)) := by
  intro M0 hW0
  refine am_of rfl rfl (ls := [some (.ref 25), some (.int 116), some (.int (nI b)), some (.int (nI n)), none, none, none, none]) rfl ?_
  suffices HH : ∀ M, RO τ M0 M → AW mX12_readsNumbers rmX12_readsNumbers (fun r' M' => r' = (some (.int (bi ((rdN (fun j => τ 30 (b + j)) n 116 i).1 = true)))) ∧ ∃ σ, RO σ M0 M' ∧ (rnP τ m 116 (rdN (fun j => τ 30 (b + j)) n 116 i)) σ) 0 [some (.ref 25), some (.int 116), some (.int (nI b)), some (.int (nI n)), none, none, none, none] [] M 0 0 from HH M0 ⟨hW0, Off.rf M0⟩
  intro M hW
  refine aw_ic5 0 dX12_readsNumbers_0 ?_
  refine aw_aload0 1 dX12_readsNumbers_1 ?_
  refine rw_gi 2 6 dX12_readsNumbers_2 ckF_RX12_166_12 (by decide) rfl hW ?_
  refine aw_topi (w := nI m) (h6) ?_
  refine aw_imulN 5 (5) (m) dX12_readsNumbers_5 rfl rfl ?_
  refine aw_ic1 6 dX12_readsNumbers_6 ?_
  refine aw_iaddN 7 (5 * m) (1) dX12_readsNumbers_7 rfl rfl ?_
  refine aw_istore4 8 dX12_readsNumbers_8 rfl ?_
  refine aw_iload1 10 dX12_readsNumbers_10 ?_
  refine aw_bipush 11 99 dX12_readsNumbers_11 (by decide) ?_
  refine aw_icmp_eqN 13 22 (116) (99) dX12_readsNumbers_13 (by decide) rfl rfl (by decide) (by decide) (fun h => absurd h (by decide)) (fun _ => ?_)
  refine aw_iload1 16 dX12_readsNumbers_16 ?_
  refine aw_bipush 17 98 dX12_readsNumbers_17 (by decide) ?_
  refine aw_icmp_neN 19 84 (116) (98) dX12_readsNumbers_19 (by decide) rfl rfl (by decide) (by decide) (fun _ => ?_) (fun h => absurd h (by decide))
  refine aw_aload0 84 dX12_readsNumbers_84 ?_
  refine rw_gi 85 8 dX12_readsNumbers_85 ckF_RX12_159_12 (by decide) rfl hW ?_
  refine aw_topi (w := nI (i)) h8 ?_
  refine aw_istore5 88 dX12_readsNumbers_88 rfl ?_
  refine aw_ic0 90 dX12_readsNumbers_90 ?_
  refine aw_istore6 91 dX12_readsNumbers_91 rfl ?_
  refine aw_iload1 93 dX12_readsNumbers_93 ?_
  refine aw_bipush 94 116 dX12_readsNumbers_94 (by decide) ?_
  refine aw_icmp_eqN 96 164 (116) (116) dX12_readsNumbers_96 (by decide) rfl rfl (by decide) (by decide) (fun _ => ?_) (fun h => absurd h (by decide))
  refine aw_aload0 164 dX12_readsNumbers_164 ?_
  refine rw_ga 165 7 dX12_readsNumbers_165 ckF_RX12_22_12 (by decide) (by decide) hW ?_
  refine aw_iload4 168 dX12_readsNumbers_168 ?_
  refine aw_iload6 170 dX12_readsNumbers_170 ?_
  refine rw_st 172 7 ((5 * m) + 1) dX12_readsNumbers_172 hW rfl (show (5 * m) + 1 < 25 by omega) (fun M hW => ?_)
  refine aw_iload1 173 dX12_readsNumbers_173 ?_
  refine aw_bipush 174 116 dX12_readsNumbers_174 (by decide) ?_
  refine aw_icmp_eqN 176 216 (116) (116) dX12_readsNumbers_176 (by decide) rfl rfl (by decide) (by decide) (fun _ => ?_) (fun h => absurd h (by decide))
  refine aw_ic1 216 dX12_readsNumbers_216 ?_
  refine aw_goto 217 221 dX12_readsNumbers_217 (by decide) ?_
  refine aw_istore7 221 dX12_readsNumbers_221 rfl ?_
  refine aw_aload0 223 dX12_readsNumbers_223 ?_
  refine aw_iload7 224 dX12_readsNumbers_224 ?_
  refine aw_if_eqN 226 236 (1) dX12_readsNumbers_226 (by decide) rfl (by decide) (fun h => absurd h (by decide)) (fun _ => ?_)
  refine aw_aload0 229 dX12_readsNumbers_229 ?_
  refine rw_gi 230 8 dX12_readsNumbers_230 ckF_RX12_159_12 (by decide) rfl hW ?_
  refine aw_topi (w := nI (i)) (by rw [tu_ne (by decide)]; exact h8) ?_
  refine aw_goto 233 238 dX12_readsNumbers_233 (by decide) ?_
  refine rw_pi 238 8 dX12_readsNumbers_238 ckF_RX12_159_12 ckP12_8 rfl (by decide) rfl hW (fun M hW => ?_)
  refine aw_iload7 241 dX12_readsNumbers_241 ?_
  refine aw_zret 243 dX12_readsNumbers_243 rfl (by first | rfl | exact bi_nar | decide) (Nat.zero_le _) (Nat.zero_le _) ?_
  have hq : rdN (fun j => τ 30 (b + j)) n 116 i = (true, i, 0) := by
    unfold rdN
    rw [if_neg (by decide), if_pos (rfl : (116 : Int32) = 116)]
  rw [hq]
  exact ⟨by rw [bi_t rfl], _, hW, (by repeat (first | exact Obs.rf _ | refine obs_tu ?_ (by decide))), (by simp only [tu_ne (show (6 : Nat) ≠ 7 by decide), tu_ne (show (6 : Nat) ≠ 8 by decide)]; exact h6), tu_at, (fun j hj => by rw [tu_ne (show (7 : Nat) ≠ 8 by decide), tu_nk (by omega)]; try simp only [tu_ne (show (7 : Nat) ≠ 8 by decide)]), (fun _ => ⟨by rw [tu_ne (show (7 : Nat) ≠ 8 by decide), tu_nk (by omega)]; (try simp only [tu_ne (show (7 : Nat) ≠ 8 by decide)]); exact h7, fun q => absurd (show (116 : Int32) = 99 ∨ (116 : Int32) = 98 from q) (by decide), fun _ => by rw [tu_ne (show (7 : Nat) ≠ 8 by decide), tu_at]; rfl⟩)⟩

set_option maxHeartbeats 4000000 in
set_option maxRecDepth 100000 in
theorem c113_X12_readsNumbers {τ : TT} {b n m i : Nat} (hbn : b + n ≤ 240) (hm : m < 5) (h6 : τ 6 0 = nI m) (h8 : τ 8 0 = nI i) (hi : i ≤ 60) (h7 : τ 7 (5 * m) = 113) : RP mX12_readsNumbers rmX12_readsNumbers [.int 113, .int (nI b), .int (nI n)] τ (some (.int (bi ((rdN (fun j => τ 30 (b + j)) n 113 i).1 = true)))) (rnP τ m 113 (rdN (fun j => τ 30 (b + j)) n 113 i)) := by
  intro M0 hW0
  refine am_of rfl rfl (ls := [some (.ref 25), some (.int 113), some (.int (nI b)), some (.int (nI n)), none, none, none, none]) rfl ?_
  suffices HH : ∀ M, RO τ M0 M → AW mX12_readsNumbers rmX12_readsNumbers (fun r' M' => r' = (some (.int (bi ((rdN (fun j => τ 30 (b + j)) n 113 i).1 = true)))) ∧ ∃ σ, RO σ M0 M' ∧ (rnP τ m 113 (rdN (fun j => τ 30 (b + j)) n 113 i)) σ) 0 [some (.ref 25), some (.int 113), some (.int (nI b)), some (.int (nI n)), none, none, none, none] [] M 0 0 from HH M0 ⟨hW0, Off.rf M0⟩
  intro M hW
  refine aw_ic5 0 dX12_readsNumbers_0 ?_
  refine aw_aload0 1 dX12_readsNumbers_1 ?_
  refine rw_gi 2 6 dX12_readsNumbers_2 ckF_RX12_166_12 (by decide) rfl hW ?_
  refine aw_topi (w := nI m) (h6) ?_
  refine aw_imulN 5 (5) (m) dX12_readsNumbers_5 rfl rfl ?_
  refine aw_ic1 6 dX12_readsNumbers_6 ?_
  refine aw_iaddN 7 (5 * m) (1) dX12_readsNumbers_7 rfl rfl ?_
  refine aw_istore4 8 dX12_readsNumbers_8 rfl ?_
  refine aw_iload1 10 dX12_readsNumbers_10 ?_
  refine aw_bipush 11 99 dX12_readsNumbers_11 (by decide) ?_
  refine aw_icmp_eqN 13 22 (113) (99) dX12_readsNumbers_13 (by decide) rfl rfl (by decide) (by decide) (fun h => absurd h (by decide)) (fun _ => ?_)
  refine aw_iload1 16 dX12_readsNumbers_16 ?_
  refine aw_bipush 17 98 dX12_readsNumbers_17 (by decide) ?_
  refine aw_icmp_neN 19 84 (113) (98) dX12_readsNumbers_19 (by decide) rfl rfl (by decide) (by decide) (fun _ => ?_) (fun h => absurd h (by decide))
  refine aw_aload0 84 dX12_readsNumbers_84 ?_
  refine rw_gi 85 8 dX12_readsNumbers_85 ckF_RX12_159_12 (by decide) rfl hW ?_
  refine aw_topi (w := nI (i)) h8 ?_
  refine aw_istore5 88 dX12_readsNumbers_88 rfl ?_
  refine aw_ic0 90 dX12_readsNumbers_90 ?_
  refine aw_istore6 91 dX12_readsNumbers_91 rfl ?_
  refine aw_iload1 93 dX12_readsNumbers_93 ?_
  refine aw_bipush 94 116 dX12_readsNumbers_94 (by decide) ?_
  refine aw_icmp_eqN 96 164 (113) (116) dX12_readsNumbers_96 (by decide) rfl rfl (by decide) (by decide) (fun h => absurd h (by decide)) (fun _ => ?_)
  refine aw_aload0 99 dX12_readsNumbers_99 ?_
  refine rw_gi 100 8 dX12_readsNumbers_100 ckF_RX12_159_12 (by decide) rfl hW ?_
  refine aw_topi (w := nI (i)) h8 ?_
  refine aw_iload5 103 dX12_readsNumbers_103 ?_
  refine aw_iload1 105 dX12_readsNumbers_105 ?_
  refine aw_bipush 106 113 dX12_readsNumbers_106 (by decide) ?_
  refine aw_icmp_neN 108 115 (113) (113) dX12_readsNumbers_108 (by decide) rfl rfl (by decide) (by decide) (fun h => absurd h (by decide)) (fun _ => ?_)
  refine aw_ic1 111 dX12_readsNumbers_111 ?_
  refine aw_goto 112 116 dX12_readsNumbers_112 (by decide) ?_
  refine aw_iaddN 116 (i) (1) dX12_readsNumbers_116 rfl rfl ?_
  refine aw_icmp_geN 117 164 (i) (i + 1) dX12_readsNumbers_117 (by decide) rfl rfl (by omega) (by omega) (fun h => absurd h (by omega)) (fun _ => ?_)
  refine aw_aload0 120 dX12_readsNumbers_120 ?_
  refine aw_iload2 121 dX12_readsNumbers_121 ?_
  refine aw_iload3 122 dX12_readsNumbers_122 ?_
  have cc0 : RD mX12_isDigit rmX12_isDigit [.int (nI b), .int (nI n)] τ (some (.int (bi (isD (fun j => τ 30 (b + j)) n (i))))) τ := by
    have := c_X12_isDigit (τ := τ) (b := b) (n := n) (i := i) hbn h8 (by omega)
    exact this
  refine rw_call1 123 dX12_readsNumbers_123 cc0 ckV_RX12_169 cd_X12_isDigit rfl hW rfl (Nat.le_of_ble_eq_true rfl) ⟨⟨by decide, by decide⟩, by decide, by decide⟩ rfl (fun M hW => ?_)
  refine aw_ifeq_b 126 164 dX12_readsNumbers_126 (by decide) (fun g0 => ?_) (fun g0 => ?_)
  · refine aw_aload0 164 dX12_readsNumbers_164 ?_
    refine rw_ga 165 7 dX12_readsNumbers_165 ckF_RX12_22_12 (by decide) (by decide) hW ?_
    refine aw_iload4 168 dX12_readsNumbers_168 ?_
    refine aw_iload6 170 dX12_readsNumbers_170 ?_
    refine rw_st 172 7 ((5 * m) + 1) dX12_readsNumbers_172 hW rfl (show (5 * m) + 1 < 25 by omega) (fun M hW => ?_)
    refine aw_iload1 173 dX12_readsNumbers_173 ?_
    refine aw_bipush 174 116 dX12_readsNumbers_174 (by decide) ?_
    refine aw_icmp_eqN 176 216 (113) (116) dX12_readsNumbers_176 (by decide) rfl rfl (by decide) (by decide) (fun h => absurd h (by decide)) (fun _ => ?_)
    refine aw_iload6 179 dX12_readsNumbers_179 ?_
    refine aw_i2l 181 dX12_readsNumbers_181 ?_
    refine aw_iload1 182 dX12_readsNumbers_182 ?_
    refine aw_bipush 183 113 dX12_readsNumbers_183 (by decide) ?_
    refine aw_icmp_neN 185 194 (113) (113) dX12_readsNumbers_185 (by decide) rfl rfl (by decide) (by decide) (fun h => absurd h (by decide)) (fun _ => ?_)
    refine aw_ldc2 188 (2) dX12_readsNumbers_188 ckL_RX12_97 ?_
    refine aw_goto 191 195 dX12_readsNumbers_191 (by decide) ?_
    refine aw_iload1 195 dX12_readsNumbers_195 ?_
    refine aw_bipush 196 113 dX12_readsNumbers_196 (by decide) ?_
    refine aw_icmp_neN 198 207 (113) (113) dX12_readsNumbers_198 (by decide) rfl rfl (by decide) (by decide) (fun h => absurd h (by decide)) (fun _ => ?_)
    refine aw_ldc2 201 (9) dX12_readsNumbers_201 ckL_RX12_172 ?_
    refine aw_goto 204 210 dX12_readsNumbers_204 (by decide) ?_
    refine sd_call1 210 dX12_readsNumbers_210 (c_in2 (2) (9) (by decide) (by decide)) ckS_RX12_99 cd_X12_in rfl (Nat.le_of_ble_eq_true rfl) ⟨⟨by decide, by decide⟩, by decide, by decide⟩ rfl ?_
    refine aw_ifeq_b 213 220 dX12_readsNumbers_213 (by decide) (fun h213 => ?_) (fun h213 => ?_)
    · refine aw_ic0 220 dX12_readsNumbers_220 ?_
      refine aw_istore7 221 dX12_readsNumbers_221 rfl ?_
      refine aw_aload0 223 dX12_readsNumbers_223 ?_
      refine aw_iload7 224 dX12_readsNumbers_224 ?_
      refine aw_if_eqN 226 236 (0) dX12_readsNumbers_226 (by decide) rfl (by decide) (fun _ => ?_) (fun h => absurd h (by decide))
      refine aw_iload5 236 dX12_readsNumbers_236 ?_
      refine rw_pi 238 8 dX12_readsNumbers_238 ckF_RX12_159_12 ckP12_8 rfl (by decide) rfl hW (fun M hW => ?_)
      refine aw_iload7 241 dX12_readsNumbers_241 ?_
      refine aw_zret 243 dX12_readsNumbers_243 rfl (by first | rfl | exact bi_nar | decide) (Nat.zero_le _) (Nat.zero_le _) ?_
      have hx : (0 : Int32).toInt = 0 := by decide
      rw [hx] at h213
      have hq : rdN (fun j => τ 30 (b + j)) n 113 i = (false, i, 0) := by
        unfold rdN
        rw [if_neg (by decide), if_neg (by decide), if_pos rfl, if_neg (nl g0)]
      rw [hq]
      exact ⟨by rw [bi_f (show ¬ (false = true) by decide)], _, hW, (by repeat (first | exact Obs.rf _ | refine obs_tu ?_ (by decide))), (by simp only [tu_ne (show (6 : Nat) ≠ 7 by decide), tu_ne (show (6 : Nat) ≠ 8 by decide)]; exact h6), tu_at, (fun j hj => by rw [tu_ne (show (7 : Nat) ≠ 8 by decide), tu_nk (by omega)]; try simp only [tu_ne (show (7 : Nat) ≠ 8 by decide)]), (fun q => by cases q)⟩
    · refine aw_ic1 216 dX12_readsNumbers_216 ?_
      refine aw_goto 217 221 dX12_readsNumbers_217 (by decide) ?_
      refine aw_istore7 221 dX12_readsNumbers_221 rfl ?_
      refine aw_aload0 223 dX12_readsNumbers_223 ?_
      refine aw_iload7 224 dX12_readsNumbers_224 ?_
      refine aw_if_eqN 226 236 (1) dX12_readsNumbers_226 (by decide) rfl (by decide) (fun h => absurd h (by decide)) (fun _ => ?_)
      refine aw_aload0 229 dX12_readsNumbers_229 ?_
      refine rw_gi 230 8 dX12_readsNumbers_230 ckF_RX12_159_12 (by decide) rfl hW ?_
      refine aw_topi (w := nI (i)) (by rw [tu_ne (by decide)]; exact h8) ?_
      refine aw_goto 233 238 dX12_readsNumbers_233 (by decide) ?_
      refine rw_pi 238 8 dX12_readsNumbers_238 ckF_RX12_159_12 ckP12_8 rfl (by decide) rfl hW (fun M hW => ?_)
      refine aw_iload7 241 dX12_readsNumbers_241 ?_
      refine aw_zret 243 dX12_readsNumbers_243 rfl (by first | rfl | exact bi_nar | decide) (Nat.zero_le _) (Nat.zero_le _) ?_
      have hx : (0 : Int32).toInt = 0 := by decide
      rw [hx] at h213
      exact absurd h213 (by omega)
  · have v0 := isD_v g0
    refine aw_bipush 129 10 dX12_readsNumbers_129 (by decide) ?_
    refine aw_iload6 131 dX12_readsNumbers_131 ?_
    refine aw_imulN 133 (10) (0) dX12_readsNumbers_133 rfl rfl ?_
    refine aw_aload0 134 dX12_readsNumbers_134 ?_
    refine rw_ga 135 30 dX12_readsNumbers_135 ckF_RX12_73_12 (by decide) (by decide) hW ?_
    refine aw_iload2 138 dX12_readsNumbers_138 ?_
    refine aw_aload0 139 dX12_readsNumbers_139 ?_
    refine rw_gi 140 8 dX12_readsNumbers_140 ckF_RX12_159_12 (by decide) rfl hW ?_
    refine aw_topi (w := nI (i)) h8 ?_
    refine aw_iaddN 143 (b) (i) dX12_readsNumbers_143 rfl rfl ?_
    refine rw_ld 144 30 (b + i) dX12_readsNumbers_144 hW rfl (show b + i < 240 by have := g0.1; omega) ?_
    refine aw_topi (w := nI (48 + dv (fun j => τ 30 (b + j)) (i))) v0.2.1 ?_
    refine aw_iaddN 145 (10 * 0) (48 + dv (fun j => τ 30 (b + j)) (i)) dX12_readsNumbers_145 rfl rfl ?_
    refine aw_bipush 146 48 dX12_readsNumbers_146 (by decide) ?_
    refine aw_isubN 148 ((10 * 0) + (48 + dv (fun j => τ 30 (b + j)) (i))) (48) dX12_readsNumbers_148 rfl rfl (by omega) ?_
    refine aw_topi (w := nI (dv (fun j => τ 30 (b + j)) (i))) (congrArg nI (by omega)) ?_
    refine aw_istore6 149 dX12_readsNumbers_149 rfl ?_
    refine aw_aload0 151 dX12_readsNumbers_151 ?_
    refine aw_dup 152 dX12_readsNumbers_152 rfl ?_
    refine rw_gi 153 8 dX12_readsNumbers_153 ckF_RX12_159_12 (by decide) rfl hW ?_
    refine aw_topi (w := nI (i)) h8 ?_
    refine aw_ic1 156 dX12_readsNumbers_156 ?_
    refine aw_iaddN 157 (i) (1) dX12_readsNumbers_157 rfl rfl ?_
    refine rw_pi 158 8 dX12_readsNumbers_158 ckF_RX12_159_12 ckP12_8 rfl (by decide) rfl hW (fun M hW => ?_)
    refine aw_goto 161 93 dX12_readsNumbers_161 (by decide) ?_
    refine aw_iload1 93 dX12_readsNumbers_93 ?_
    refine aw_bipush 94 116 dX12_readsNumbers_94 (by decide) ?_
    refine aw_icmp_eqN 96 164 (113) (116) dX12_readsNumbers_96 (by decide) rfl rfl (by decide) (by decide) (fun h => absurd h (by decide)) (fun _ => ?_)
    refine aw_aload0 99 dX12_readsNumbers_99 ?_
    refine rw_gi 100 8 dX12_readsNumbers_100 ckF_RX12_159_12 (by decide) rfl hW ?_
    refine aw_topi (w := nI (i + 1)) (by rw [tu_at]) ?_
    refine aw_iload5 103 dX12_readsNumbers_103 ?_
    refine aw_iload1 105 dX12_readsNumbers_105 ?_
    refine aw_bipush 106 113 dX12_readsNumbers_106 (by decide) ?_
    refine aw_icmp_neN 108 115 (113) (113) dX12_readsNumbers_108 (by decide) rfl rfl (by decide) (by decide) (fun h => absurd h (by decide)) (fun _ => ?_)
    refine aw_ic1 111 dX12_readsNumbers_111 ?_
    refine aw_goto 112 116 dX12_readsNumbers_112 (by decide) ?_
    refine aw_iaddN 116 (i) (1) dX12_readsNumbers_116 rfl rfl ?_
    refine aw_icmp_geN 117 164 (i + 1) (i + 1) dX12_readsNumbers_117 (by decide) rfl rfl (by omega) (by omega) (fun _ => ?_) (fun h => absurd h (by omega))
    refine aw_aload0 164 dX12_readsNumbers_164 ?_
    refine rw_ga 165 7 dX12_readsNumbers_165 ckF_RX12_22_12 (by decide) (by decide) hW ?_
    refine aw_iload4 168 dX12_readsNumbers_168 ?_
    refine aw_iload6 170 dX12_readsNumbers_170 ?_
    refine rw_st 172 7 ((5 * m) + 1) dX12_readsNumbers_172 hW rfl (show (5 * m) + 1 < 25 by omega) (fun M hW => ?_)
    refine aw_iload1 173 dX12_readsNumbers_173 ?_
    refine aw_bipush 174 116 dX12_readsNumbers_174 (by decide) ?_
    refine aw_icmp_eqN 176 216 (113) (116) dX12_readsNumbers_176 (by decide) rfl rfl (by decide) (by decide) (fun h => absurd h (by decide)) (fun _ => ?_)
    refine aw_iload6 179 dX12_readsNumbers_179 ?_
    refine aw_i2l 181 dX12_readsNumbers_181 ?_
    refine aw_iload1 182 dX12_readsNumbers_182 ?_
    refine aw_bipush 183 113 dX12_readsNumbers_183 (by decide) ?_
    refine aw_icmp_neN 185 194 (113) (113) dX12_readsNumbers_185 (by decide) rfl rfl (by decide) (by decide) (fun h => absurd h (by decide)) (fun _ => ?_)
    refine aw_ldc2 188 (2) dX12_readsNumbers_188 ckL_RX12_97 ?_
    refine aw_goto 191 195 dX12_readsNumbers_191 (by decide) ?_
    refine aw_iload1 195 dX12_readsNumbers_195 ?_
    refine aw_bipush 196 113 dX12_readsNumbers_196 (by decide) ?_
    refine aw_icmp_neN 198 207 (113) (113) dX12_readsNumbers_198 (by decide) rfl rfl (by decide) (by decide) (fun h => absurd h (by decide)) (fun _ => ?_)
    refine aw_ldc2 201 (9) dX12_readsNumbers_201 ckL_RX12_172 ?_
    refine aw_goto 204 210 dX12_readsNumbers_204 (by decide) ?_
    refine sd_call1 210 dX12_readsNumbers_210 (c_in2 (2) (9) (by decide) (by decide)) ckS_RX12_99 cd_X12_in rfl (Nat.le_of_ble_eq_true rfl) ⟨⟨by decide, by decide⟩, by decide, by decide⟩ rfl ?_
    refine aw_ifeq_b 213 220 dX12_readsNumbers_213 (by decide) (fun h213 => ?_) (fun h213 => ?_)
    · refine aw_ic0 220 dX12_readsNumbers_220 ?_
      refine aw_istore7 221 dX12_readsNumbers_221 rfl ?_
      refine aw_aload0 223 dX12_readsNumbers_223 ?_
      refine aw_iload7 224 dX12_readsNumbers_224 ?_
      refine aw_if_eqN 226 236 (0) dX12_readsNumbers_226 (by decide) rfl (by decide) (fun _ => ?_) (fun h => absurd h (by decide))
      refine aw_iload5 236 dX12_readsNumbers_236 ?_
      refine rw_pi 238 8 dX12_readsNumbers_238 ckF_RX12_159_12 ckP12_8 rfl (by decide) rfl hW (fun M hW => ?_)
      refine aw_iload7 241 dX12_readsNumbers_241 ?_
      refine aw_zret 243 dX12_readsNumbers_243 rfl (by first | rfl | exact bi_nar | decide) (Nat.zero_le _) (Nat.zero_le _) ?_
      have hx : (nI (dv (fun j => τ 30 (b + j)) (i))).toInt = ((dv (fun j => τ 30 (b + j)) (i) : Nat) : Int) := nI_toInt (by omega)
      rw [hx] at h213
      have hv : ¬ 2 ≤ dv (fun j => τ 30 (b + j)) (i) := by omega
      have hq : rdN (fun j => τ 30 (b + j)) n 113 i = (false, i, 0) := by
        unfold rdN
        rw [if_neg (by decide), if_neg (by decide), if_pos rfl, if_neg (nr hv)]
      rw [hq]
      exact ⟨by rw [bi_f (show ¬ (false = true) by decide)], _, hW, (by repeat (first | exact Obs.rf _ | refine obs_tu ?_ (by decide))), (by simp only [tu_ne (show (6 : Nat) ≠ 7 by decide), tu_ne (show (6 : Nat) ≠ 8 by decide)]; exact h6), tu_at, (fun j hj => by rw [tu_ne (show (7 : Nat) ≠ 8 by decide), tu_nk (by omega)]; try simp only [tu_ne (show (7 : Nat) ≠ 8 by decide)]), (fun q => by cases q)⟩
    · refine aw_ic1 216 dX12_readsNumbers_216 ?_
      refine aw_goto 217 221 dX12_readsNumbers_217 (by decide) ?_
      refine aw_istore7 221 dX12_readsNumbers_221 rfl ?_
      refine aw_aload0 223 dX12_readsNumbers_223 ?_
      refine aw_iload7 224 dX12_readsNumbers_224 ?_
      refine aw_if_eqN 226 236 (1) dX12_readsNumbers_226 (by decide) rfl (by decide) (fun h => absurd h (by decide)) (fun _ => ?_)
      refine aw_aload0 229 dX12_readsNumbers_229 ?_
      refine rw_gi 230 8 dX12_readsNumbers_230 ckF_RX12_159_12 (by decide) rfl hW ?_
      refine aw_topi (w := nI (i + 1)) (by rw [tu_ne (by decide), tu_at]) ?_
      refine aw_goto 233 238 dX12_readsNumbers_233 (by decide) ?_
      refine rw_pi 238 8 dX12_readsNumbers_238 ckF_RX12_159_12 ckP12_8 rfl (by decide) rfl hW (fun M hW => ?_)
      refine aw_iload7 241 dX12_readsNumbers_241 ?_
      refine aw_zret 243 dX12_readsNumbers_243 rfl (by first | rfl | exact bi_nar | decide) (Nat.zero_le _) (Nat.zero_le _) ?_
      have hx : (nI (dv (fun j => τ 30 (b + j)) (i))).toInt = ((dv (fun j => τ 30 (b + j)) (i) : Nat) : Int) := nI_toInt (by omega)
      rw [hx] at h213
      have hv : 2 ≤ dv (fun j => τ 30 (b + j)) (i) := by omega
      have hq : rdN (fun j => τ 30 (b + j)) n 113 i = (true, i + 1, dv (fun j => τ 30 (b + j)) (i)) := by
        unfold rdN
        rw [if_neg (by decide), if_neg (by decide), if_pos rfl, if_pos (And.intro g0 hv)]
      rw [hq]
      exact ⟨by rw [bi_t rfl], _, hW, (by repeat (first | exact Obs.rf _ | refine obs_tu ?_ (by decide))), (by simp only [tu_ne (show (6 : Nat) ≠ 7 by decide), tu_ne (show (6 : Nat) ≠ 8 by decide)]; exact h6), tu_at, (fun j hj => by rw [tu_ne (show (7 : Nat) ≠ 8 by decide), tu_nk (by omega)]; try simp only [tu_ne (show (7 : Nat) ≠ 8 by decide)]), (fun _ => ⟨by rw [tu_ne (show (7 : Nat) ≠ 8 by decide), tu_nk (by omega)]; (try simp only [tu_ne (show (7 : Nat) ≠ 8 by decide)]); exact h7, fun q => absurd (show (113 : Int32) = 99 ∨ (113 : Int32) = 98 from q) (by decide), fun _ => by rw [tu_ne (show (7 : Nat) ≠ 8 by decide), tu_at]⟩)⟩

set_option maxHeartbeats 4000000 in
set_option maxRecDepth 100000 in
theorem c108_X12_readsNumbers {τ : TT} {b n m i : Nat} (hbn : b + n ≤ 240) (hm : m < 5) (h6 : τ 6 0 = nI m) (h8 : τ 8 0 = nI i) (hi : i ≤ 60) (h7 : τ 7 (5 * m) = 108) : RP mX12_readsNumbers rmX12_readsNumbers [.int 108, .int (nI b), .int (nI n)] τ (some (.int (bi ((rdN (fun j => τ 30 (b + j)) n 108 i).1 = true)))) (rnP τ m 108 (rdN (fun j => τ 30 (b + j)) n 108 i)) := by
  intro M0 hW0
  refine am_of rfl rfl (ls := [some (.ref 25), some (.int 108), some (.int (nI b)), some (.int (nI n)), none, none, none, none]) rfl ?_
  suffices HH : ∀ M, RO τ M0 M → AW mX12_readsNumbers rmX12_readsNumbers (fun r' M' => r' = (some (.int (bi ((rdN (fun j => τ 30 (b + j)) n 108 i).1 = true)))) ∧ ∃ σ, RO σ M0 M' ∧ (rnP τ m 108 (rdN (fun j => τ 30 (b + j)) n 108 i)) σ) 0 [some (.ref 25), some (.int 108), some (.int (nI b)), some (.int (nI n)), none, none, none, none] [] M 0 0 from HH M0 ⟨hW0, Off.rf M0⟩
  intro M hW
  refine aw_ic5 0 dX12_readsNumbers_0 ?_
  refine aw_aload0 1 dX12_readsNumbers_1 ?_
  refine rw_gi 2 6 dX12_readsNumbers_2 ckF_RX12_166_12 (by decide) rfl hW ?_
  refine aw_topi (w := nI m) (h6) ?_
  refine aw_imulN 5 (5) (m) dX12_readsNumbers_5 rfl rfl ?_
  refine aw_ic1 6 dX12_readsNumbers_6 ?_
  refine aw_iaddN 7 (5 * m) (1) dX12_readsNumbers_7 rfl rfl ?_
  refine aw_istore4 8 dX12_readsNumbers_8 rfl ?_
  refine aw_iload1 10 dX12_readsNumbers_10 ?_
  refine aw_bipush 11 99 dX12_readsNumbers_11 (by decide) ?_
  refine aw_icmp_eqN 13 22 (108) (99) dX12_readsNumbers_13 (by decide) rfl rfl (by decide) (by decide) (fun h => absurd h (by decide)) (fun _ => ?_)
  refine aw_iload1 16 dX12_readsNumbers_16 ?_
  refine aw_bipush 17 98 dX12_readsNumbers_17 (by decide) ?_
  refine aw_icmp_neN 19 84 (108) (98) dX12_readsNumbers_19 (by decide) rfl rfl (by decide) (by decide) (fun _ => ?_) (fun h => absurd h (by decide))
  refine aw_aload0 84 dX12_readsNumbers_84 ?_
  refine rw_gi 85 8 dX12_readsNumbers_85 ckF_RX12_159_12 (by decide) rfl hW ?_
  refine aw_topi (w := nI (i)) h8 ?_
  refine aw_istore5 88 dX12_readsNumbers_88 rfl ?_
  refine aw_ic0 90 dX12_readsNumbers_90 ?_
  refine aw_istore6 91 dX12_readsNumbers_91 rfl ?_
  refine aw_iload1 93 dX12_readsNumbers_93 ?_
  refine aw_bipush 94 116 dX12_readsNumbers_94 (by decide) ?_
  refine aw_icmp_eqN 96 164 (108) (116) dX12_readsNumbers_96 (by decide) rfl rfl (by decide) (by decide) (fun h => absurd h (by decide)) (fun _ => ?_)
  refine aw_aload0 99 dX12_readsNumbers_99 ?_
  refine rw_gi 100 8 dX12_readsNumbers_100 ckF_RX12_159_12 (by decide) rfl hW ?_
  refine aw_topi (w := nI (i)) h8 ?_
  refine aw_iload5 103 dX12_readsNumbers_103 ?_
  refine aw_iload1 105 dX12_readsNumbers_105 ?_
  refine aw_bipush 106 113 dX12_readsNumbers_106 (by decide) ?_
  refine aw_icmp_neN 108 115 (108) (113) dX12_readsNumbers_108 (by decide) rfl rfl (by decide) (by decide) (fun _ => ?_) (fun h => absurd h (by decide))
  refine aw_ic2 115 dX12_readsNumbers_115 ?_
  refine aw_iaddN 116 (i) (2) dX12_readsNumbers_116 rfl rfl ?_
  refine aw_icmp_geN 117 164 (i) (i + 2) dX12_readsNumbers_117 (by decide) rfl rfl (by omega) (by omega) (fun h => absurd h (by omega)) (fun _ => ?_)
  refine aw_aload0 120 dX12_readsNumbers_120 ?_
  refine aw_iload2 121 dX12_readsNumbers_121 ?_
  refine aw_iload3 122 dX12_readsNumbers_122 ?_
  have cc0 : RD mX12_isDigit rmX12_isDigit [.int (nI b), .int (nI n)] τ (some (.int (bi (isD (fun j => τ 30 (b + j)) n (i))))) τ := by
    have := c_X12_isDigit (τ := τ) (b := b) (n := n) (i := i) hbn h8 (by omega)
    exact this
  refine rw_call1 123 dX12_readsNumbers_123 cc0 ckV_RX12_169 cd_X12_isDigit rfl hW rfl (Nat.le_of_ble_eq_true rfl) ⟨⟨by decide, by decide⟩, by decide, by decide⟩ rfl (fun M hW => ?_)
  refine aw_ifeq_b 126 164 dX12_readsNumbers_126 (by decide) (fun g0 => ?_) (fun g0 => ?_)
  · refine aw_aload0 164 dX12_readsNumbers_164 ?_
    refine rw_ga 165 7 dX12_readsNumbers_165 ckF_RX12_22_12 (by decide) (by decide) hW ?_
    refine aw_iload4 168 dX12_readsNumbers_168 ?_
    refine aw_iload6 170 dX12_readsNumbers_170 ?_
    refine rw_st 172 7 ((5 * m) + 1) dX12_readsNumbers_172 hW rfl (show (5 * m) + 1 < 25 by omega) (fun M hW => ?_)
    refine aw_iload1 173 dX12_readsNumbers_173 ?_
    refine aw_bipush 174 116 dX12_readsNumbers_174 (by decide) ?_
    refine aw_icmp_eqN 176 216 (108) (116) dX12_readsNumbers_176 (by decide) rfl rfl (by decide) (by decide) (fun h => absurd h (by decide)) (fun _ => ?_)
    refine aw_iload6 179 dX12_readsNumbers_179 ?_
    refine aw_i2l 181 dX12_readsNumbers_181 ?_
    refine aw_iload1 182 dX12_readsNumbers_182 ?_
    refine aw_bipush 183 113 dX12_readsNumbers_183 (by decide) ?_
    refine aw_icmp_neN 185 194 (108) (113) dX12_readsNumbers_185 (by decide) rfl rfl (by decide) (by decide) (fun _ => ?_) (fun h => absurd h (by decide))
    refine aw_lc1 194 dX12_readsNumbers_194 ?_
    refine aw_iload1 195 dX12_readsNumbers_195 ?_
    refine aw_bipush 196 113 dX12_readsNumbers_196 (by decide) ?_
    refine aw_icmp_neN 198 207 (108) (113) dX12_readsNumbers_198 (by decide) rfl rfl (by decide) (by decide) (fun _ => ?_) (fun h => absurd h (by decide))
    refine aw_ldc2 207 (99) dX12_readsNumbers_207 ckL_RX12_126 ?_
    refine sd_call1 210 dX12_readsNumbers_210 (c_in2 (1) (99) (by decide) (by decide)) ckS_RX12_99 cd_X12_in rfl (Nat.le_of_ble_eq_true rfl) ⟨⟨by decide, by decide⟩, by decide, by decide⟩ rfl ?_
    refine aw_ifeq_b 213 220 dX12_readsNumbers_213 (by decide) (fun h213 => ?_) (fun h213 => ?_)
    · refine aw_ic0 220 dX12_readsNumbers_220 ?_
      refine aw_istore7 221 dX12_readsNumbers_221 rfl ?_
      refine aw_aload0 223 dX12_readsNumbers_223 ?_
      refine aw_iload7 224 dX12_readsNumbers_224 ?_
      refine aw_if_eqN 226 236 (0) dX12_readsNumbers_226 (by decide) rfl (by decide) (fun _ => ?_) (fun h => absurd h (by decide))
      refine aw_iload5 236 dX12_readsNumbers_236 ?_
      refine rw_pi 238 8 dX12_readsNumbers_238 ckF_RX12_159_12 ckP12_8 rfl (by decide) rfl hW (fun M hW => ?_)
      refine aw_iload7 241 dX12_readsNumbers_241 ?_
      refine aw_zret 243 dX12_readsNumbers_243 rfl (by first | rfl | exact bi_nar | decide) (Nat.zero_le _) (Nat.zero_le _) ?_
      have hx : (0 : Int32).toInt = 0 := by decide
      rw [hx] at h213
      have hq : rdN (fun j => τ 30 (b + j)) n 108 i = (false, i, 0) := by
        unfold rdN
        rw [if_neg (by decide), if_neg (by decide), if_neg (by decide), if_pos g0]
      rw [hq]
      exact ⟨by rw [bi_f (show ¬ (false = true) by decide)], _, hW, (by repeat (first | exact Obs.rf _ | refine obs_tu ?_ (by decide))), (by simp only [tu_ne (show (6 : Nat) ≠ 7 by decide), tu_ne (show (6 : Nat) ≠ 8 by decide)]; exact h6), tu_at, (fun j hj => by rw [tu_ne (show (7 : Nat) ≠ 8 by decide), tu_nk (by omega)]; try simp only [tu_ne (show (7 : Nat) ≠ 8 by decide)]), (fun q => by cases q)⟩
    · refine aw_ic1 216 dX12_readsNumbers_216 ?_
      refine aw_goto 217 221 dX12_readsNumbers_217 (by decide) ?_
      refine aw_istore7 221 dX12_readsNumbers_221 rfl ?_
      refine aw_aload0 223 dX12_readsNumbers_223 ?_
      refine aw_iload7 224 dX12_readsNumbers_224 ?_
      refine aw_if_eqN 226 236 (1) dX12_readsNumbers_226 (by decide) rfl (by decide) (fun h => absurd h (by decide)) (fun _ => ?_)
      refine aw_aload0 229 dX12_readsNumbers_229 ?_
      refine rw_gi 230 8 dX12_readsNumbers_230 ckF_RX12_159_12 (by decide) rfl hW ?_
      refine aw_topi (w := nI (i)) (by rw [tu_ne (by decide)]; exact h8) ?_
      refine aw_goto 233 238 dX12_readsNumbers_233 (by decide) ?_
      refine rw_pi 238 8 dX12_readsNumbers_238 ckF_RX12_159_12 ckP12_8 rfl (by decide) rfl hW (fun M hW => ?_)
      refine aw_iload7 241 dX12_readsNumbers_241 ?_
      refine aw_zret 243 dX12_readsNumbers_243 rfl (by first | rfl | exact bi_nar | decide) (Nat.zero_le _) (Nat.zero_le _) ?_
      have hx : (0 : Int32).toInt = 0 := by decide
      rw [hx] at h213
      exact absurd h213 (by omega)
  · have v0 := isD_v g0
    refine aw_bipush 129 10 dX12_readsNumbers_129 (by decide) ?_
    refine aw_iload6 131 dX12_readsNumbers_131 ?_
    refine aw_imulN 133 (10) (0) dX12_readsNumbers_133 rfl rfl ?_
    refine aw_aload0 134 dX12_readsNumbers_134 ?_
    refine rw_ga 135 30 dX12_readsNumbers_135 ckF_RX12_73_12 (by decide) (by decide) hW ?_
    refine aw_iload2 138 dX12_readsNumbers_138 ?_
    refine aw_aload0 139 dX12_readsNumbers_139 ?_
    refine rw_gi 140 8 dX12_readsNumbers_140 ckF_RX12_159_12 (by decide) rfl hW ?_
    refine aw_topi (w := nI (i)) h8 ?_
    refine aw_iaddN 143 (b) (i) dX12_readsNumbers_143 rfl rfl ?_
    refine rw_ld 144 30 (b + i) dX12_readsNumbers_144 hW rfl (show b + i < 240 by have := g0.1; omega) ?_
    refine aw_topi (w := nI (48 + dv (fun j => τ 30 (b + j)) (i))) v0.2.1 ?_
    refine aw_iaddN 145 (10 * 0) (48 + dv (fun j => τ 30 (b + j)) (i)) dX12_readsNumbers_145 rfl rfl ?_
    refine aw_bipush 146 48 dX12_readsNumbers_146 (by decide) ?_
    refine aw_isubN 148 ((10 * 0) + (48 + dv (fun j => τ 30 (b + j)) (i))) (48) dX12_readsNumbers_148 rfl rfl (by omega) ?_
    refine aw_topi (w := nI (dv (fun j => τ 30 (b + j)) (i))) (congrArg nI (by omega)) ?_
    refine aw_istore6 149 dX12_readsNumbers_149 rfl ?_
    refine aw_aload0 151 dX12_readsNumbers_151 ?_
    refine aw_dup 152 dX12_readsNumbers_152 rfl ?_
    refine rw_gi 153 8 dX12_readsNumbers_153 ckF_RX12_159_12 (by decide) rfl hW ?_
    refine aw_topi (w := nI (i)) h8 ?_
    refine aw_ic1 156 dX12_readsNumbers_156 ?_
    refine aw_iaddN 157 (i) (1) dX12_readsNumbers_157 rfl rfl ?_
    refine rw_pi 158 8 dX12_readsNumbers_158 ckF_RX12_159_12 ckP12_8 rfl (by decide) rfl hW (fun M hW => ?_)
    refine aw_goto 161 93 dX12_readsNumbers_161 (by decide) ?_
    refine aw_iload1 93 dX12_readsNumbers_93 ?_
    refine aw_bipush 94 116 dX12_readsNumbers_94 (by decide) ?_
    refine aw_icmp_eqN 96 164 (108) (116) dX12_readsNumbers_96 (by decide) rfl rfl (by decide) (by decide) (fun h => absurd h (by decide)) (fun _ => ?_)
    refine aw_aload0 99 dX12_readsNumbers_99 ?_
    refine rw_gi 100 8 dX12_readsNumbers_100 ckF_RX12_159_12 (by decide) rfl hW ?_
    refine aw_topi (w := nI (i + 1)) (by rw [tu_at]) ?_
    refine aw_iload5 103 dX12_readsNumbers_103 ?_
    refine aw_iload1 105 dX12_readsNumbers_105 ?_
    refine aw_bipush 106 113 dX12_readsNumbers_106 (by decide) ?_
    refine aw_icmp_neN 108 115 (108) (113) dX12_readsNumbers_108 (by decide) rfl rfl (by decide) (by decide) (fun _ => ?_) (fun h => absurd h (by decide))
    refine aw_ic2 115 dX12_readsNumbers_115 ?_
    refine aw_iaddN 116 (i) (2) dX12_readsNumbers_116 rfl rfl ?_
    refine aw_icmp_geN 117 164 (i + 1) (i + 2) dX12_readsNumbers_117 (by decide) rfl rfl (by omega) (by omega) (fun h => absurd h (by omega)) (fun _ => ?_)
    refine aw_aload0 120 dX12_readsNumbers_120 ?_
    refine aw_iload2 121 dX12_readsNumbers_121 ?_
    refine aw_iload3 122 dX12_readsNumbers_122 ?_
    have cc1 : RD mX12_isDigit rmX12_isDigit [.int (nI b), .int (nI n)] (tu τ 8 0 (nI (i + 1))) (some (.int (bi (isD (fun j => τ 30 (b + j)) n (i + 1))))) (tu τ 8 0 (nI (i + 1))) := by
      have := c_X12_isDigit (τ := (tu τ 8 0 (nI (i + 1)))) (b := b) (n := n) (i := i + 1) hbn (by rw [tu_at]) (by omega)
      simpa only [tu_ne (show (30 : Nat) ≠ 8 by decide)] using this
    refine rw_call1 123 dX12_readsNumbers_123 cc1 ckV_RX12_169 cd_X12_isDigit rfl hW rfl (Nat.le_of_ble_eq_true rfl) ⟨⟨by decide, by decide⟩, by decide, by decide⟩ rfl (fun M hW => ?_)
    refine aw_ifeq_b 126 164 dX12_readsNumbers_126 (by decide) (fun g1 => ?_) (fun g1 => ?_)
    · refine aw_aload0 164 dX12_readsNumbers_164 ?_
      refine rw_ga 165 7 dX12_readsNumbers_165 ckF_RX12_22_12 (by decide) (by decide) hW ?_
      refine aw_iload4 168 dX12_readsNumbers_168 ?_
      refine aw_iload6 170 dX12_readsNumbers_170 ?_
      refine rw_st 172 7 ((5 * m) + 1) dX12_readsNumbers_172 hW rfl (show (5 * m) + 1 < 25 by omega) (fun M hW => ?_)
      refine aw_iload1 173 dX12_readsNumbers_173 ?_
      refine aw_bipush 174 116 dX12_readsNumbers_174 (by decide) ?_
      refine aw_icmp_eqN 176 216 (108) (116) dX12_readsNumbers_176 (by decide) rfl rfl (by decide) (by decide) (fun h => absurd h (by decide)) (fun _ => ?_)
      refine aw_iload6 179 dX12_readsNumbers_179 ?_
      refine aw_i2l 181 dX12_readsNumbers_181 ?_
      refine aw_iload1 182 dX12_readsNumbers_182 ?_
      refine aw_bipush 183 113 dX12_readsNumbers_183 (by decide) ?_
      refine aw_icmp_neN 185 194 (108) (113) dX12_readsNumbers_185 (by decide) rfl rfl (by decide) (by decide) (fun _ => ?_) (fun h => absurd h (by decide))
      refine aw_lc1 194 dX12_readsNumbers_194 ?_
      refine aw_iload1 195 dX12_readsNumbers_195 ?_
      refine aw_bipush 196 113 dX12_readsNumbers_196 (by decide) ?_
      refine aw_icmp_neN 198 207 (108) (113) dX12_readsNumbers_198 (by decide) rfl rfl (by decide) (by decide) (fun _ => ?_) (fun h => absurd h (by decide))
      refine aw_ldc2 207 (99) dX12_readsNumbers_207 ckL_RX12_126 ?_
      refine sd_call1 210 dX12_readsNumbers_210 (c_in2 (1) (99) (by decide) (by decide)) ckS_RX12_99 cd_X12_in rfl (Nat.le_of_ble_eq_true rfl) ⟨⟨by decide, by decide⟩, by decide, by decide⟩ rfl ?_
      refine aw_ifeq_b 213 220 dX12_readsNumbers_213 (by decide) (fun h213 => ?_) (fun h213 => ?_)
      · refine aw_ic0 220 dX12_readsNumbers_220 ?_
        refine aw_istore7 221 dX12_readsNumbers_221 rfl ?_
        refine aw_aload0 223 dX12_readsNumbers_223 ?_
        refine aw_iload7 224 dX12_readsNumbers_224 ?_
        refine aw_if_eqN 226 236 (0) dX12_readsNumbers_226 (by decide) rfl (by decide) (fun _ => ?_) (fun h => absurd h (by decide))
        refine aw_iload5 236 dX12_readsNumbers_236 ?_
        refine rw_pi 238 8 dX12_readsNumbers_238 ckF_RX12_159_12 ckP12_8 rfl (by decide) rfl hW (fun M hW => ?_)
        refine aw_iload7 241 dX12_readsNumbers_241 ?_
        refine aw_zret 243 dX12_readsNumbers_243 rfl (by first | rfl | exact bi_nar | decide) (Nat.zero_le _) (Nat.zero_le _) ?_
        have hx : (nI (dv (fun j => τ 30 (b + j)) (i))).toInt = ((dv (fun j => τ 30 (b + j)) (i) : Nat) : Int) := nI_toInt (by omega)
        rw [hx] at h213
        have hv : dv (fun j => τ 30 (b + j)) (i) = 0 := by omega
        have hq : rdN (fun j => τ 30 (b + j)) n 108 i = (false, i, 0) := by
          unfold rdN
          rw [if_neg (by decide), if_neg (by decide), if_neg (by decide), if_neg (nn g0), if_pos g1, if_pos hv]
        rw [hq]
        exact ⟨by rw [bi_f (show ¬ (false = true) by decide)], _, hW, (by repeat (first | exact Obs.rf _ | refine obs_tu ?_ (by decide))), (by simp only [tu_ne (show (6 : Nat) ≠ 7 by decide), tu_ne (show (6 : Nat) ≠ 8 by decide)]; exact h6), tu_at, (fun j hj => by rw [tu_ne (show (7 : Nat) ≠ 8 by decide), tu_nk (by omega)]; try simp only [tu_ne (show (7 : Nat) ≠ 8 by decide)]), (fun q => by cases q)⟩
      · refine aw_ic1 216 dX12_readsNumbers_216 ?_
        refine aw_goto 217 221 dX12_readsNumbers_217 (by decide) ?_
        refine aw_istore7 221 dX12_readsNumbers_221 rfl ?_
        refine aw_aload0 223 dX12_readsNumbers_223 ?_
        refine aw_iload7 224 dX12_readsNumbers_224 ?_
        refine aw_if_eqN 226 236 (1) dX12_readsNumbers_226 (by decide) rfl (by decide) (fun h => absurd h (by decide)) (fun _ => ?_)
        refine aw_aload0 229 dX12_readsNumbers_229 ?_
        refine rw_gi 230 8 dX12_readsNumbers_230 ckF_RX12_159_12 (by decide) rfl hW ?_
        refine aw_topi (w := nI (i + 1)) (by rw [tu_ne (by decide), tu_at]) ?_
        refine aw_goto 233 238 dX12_readsNumbers_233 (by decide) ?_
        refine rw_pi 238 8 dX12_readsNumbers_238 ckF_RX12_159_12 ckP12_8 rfl (by decide) rfl hW (fun M hW => ?_)
        refine aw_iload7 241 dX12_readsNumbers_241 ?_
        refine aw_zret 243 dX12_readsNumbers_243 rfl (by first | rfl | exact bi_nar | decide) (Nat.zero_le _) (Nat.zero_le _) ?_
        have hx : (nI (dv (fun j => τ 30 (b + j)) (i))).toInt = ((dv (fun j => τ 30 (b + j)) (i) : Nat) : Int) := nI_toInt (by omega)
        rw [hx] at h213
        have hv : ¬ dv (fun j => τ 30 (b + j)) (i) = 0 := by omega
        have hq : rdN (fun j => τ 30 (b + j)) n 108 i = (true, i + 1, dv (fun j => τ 30 (b + j)) (i)) := by
          unfold rdN
          rw [if_neg (by decide), if_neg (by decide), if_neg (by decide), if_neg (nn g0), if_pos g1, if_neg hv]
        rw [hq]
        exact ⟨by rw [bi_t rfl], _, hW, (by repeat (first | exact Obs.rf _ | refine obs_tu ?_ (by decide))), (by simp only [tu_ne (show (6 : Nat) ≠ 7 by decide), tu_ne (show (6 : Nat) ≠ 8 by decide)]; exact h6), tu_at, (fun j hj => by rw [tu_ne (show (7 : Nat) ≠ 8 by decide), tu_nk (by omega)]; try simp only [tu_ne (show (7 : Nat) ≠ 8 by decide)]), (fun _ => ⟨by rw [tu_ne (show (7 : Nat) ≠ 8 by decide), tu_nk (by omega)]; (try simp only [tu_ne (show (7 : Nat) ≠ 8 by decide)]); exact h7, fun q => absurd (show (108 : Int32) = 99 ∨ (108 : Int32) = 98 from q) (by decide), fun _ => by rw [tu_ne (show (7 : Nat) ≠ 8 by decide), tu_at]⟩)⟩
    · have v1 := isD_v g1
      refine aw_bipush 129 10 dX12_readsNumbers_129 (by decide) ?_
      refine aw_iload6 131 dX12_readsNumbers_131 ?_
      refine aw_imulN 133 (10) (dv (fun j => τ 30 (b + j)) (i)) dX12_readsNumbers_133 rfl rfl ?_
      refine aw_aload0 134 dX12_readsNumbers_134 ?_
      refine rw_ga 135 30 dX12_readsNumbers_135 ckF_RX12_73_12 (by decide) (by decide) hW ?_
      refine aw_iload2 138 dX12_readsNumbers_138 ?_
      refine aw_aload0 139 dX12_readsNumbers_139 ?_
      refine rw_gi 140 8 dX12_readsNumbers_140 ckF_RX12_159_12 (by decide) rfl hW ?_
      refine aw_topi (w := nI (i + 1)) (by rw [tu_at]) ?_
      refine aw_iaddN 143 (b) (i + 1) dX12_readsNumbers_143 rfl rfl ?_
      refine rw_ld 144 30 (b + (i + 1)) dX12_readsNumbers_144 hW rfl (show b + (i + 1) < 240 by have := g1.1; omega) ?_
      refine aw_topi (w := nI (48 + dv (fun j => τ 30 (b + j)) (i + 1))) (by rw [tu_ne (by decide)]; exact v1.2.1) ?_
      refine aw_iaddN 145 (10 * (dv (fun j => τ 30 (b + j)) (i))) (48 + dv (fun j => τ 30 (b + j)) (i + 1)) dX12_readsNumbers_145 rfl rfl ?_
      refine aw_bipush 146 48 dX12_readsNumbers_146 (by decide) ?_
      refine aw_isubN 148 ((10 * (dv (fun j => τ 30 (b + j)) (i))) + (48 + dv (fun j => τ 30 (b + j)) (i + 1))) (48) dX12_readsNumbers_148 rfl rfl (by omega) ?_
      refine aw_topi (w := nI (10 * dv (fun j => τ 30 (b + j)) (i) + dv (fun j => τ 30 (b + j)) (i + 1))) (congrArg nI (by omega)) ?_
      refine aw_istore6 149 dX12_readsNumbers_149 rfl ?_
      refine aw_aload0 151 dX12_readsNumbers_151 ?_
      refine aw_dup 152 dX12_readsNumbers_152 rfl ?_
      refine rw_gi 153 8 dX12_readsNumbers_153 ckF_RX12_159_12 (by decide) rfl hW ?_
      refine aw_topi (w := nI (i + 1)) (by rw [tu_at]) ?_
      refine aw_ic1 156 dX12_readsNumbers_156 ?_
      refine aw_iaddN 157 (i + 1) (1) dX12_readsNumbers_157 rfl rfl ?_
      refine rw_pi 158 8 dX12_readsNumbers_158 ckF_RX12_159_12 ckP12_8 rfl (by decide) rfl hW (fun M hW => ?_)
      refine aw_goto 161 93 dX12_readsNumbers_161 (by decide) ?_
      refine aw_iload1 93 dX12_readsNumbers_93 ?_
      refine aw_bipush 94 116 dX12_readsNumbers_94 (by decide) ?_
      refine aw_icmp_eqN 96 164 (108) (116) dX12_readsNumbers_96 (by decide) rfl rfl (by decide) (by decide) (fun h => absurd h (by decide)) (fun _ => ?_)
      refine aw_aload0 99 dX12_readsNumbers_99 ?_
      refine rw_gi 100 8 dX12_readsNumbers_100 ckF_RX12_159_12 (by decide) rfl hW ?_
      refine aw_topi (w := nI (i + 1 + 1)) (by rw [tu_at]) ?_
      refine aw_iload5 103 dX12_readsNumbers_103 ?_
      refine aw_iload1 105 dX12_readsNumbers_105 ?_
      refine aw_bipush 106 113 dX12_readsNumbers_106 (by decide) ?_
      refine aw_icmp_neN 108 115 (108) (113) dX12_readsNumbers_108 (by decide) rfl rfl (by decide) (by decide) (fun _ => ?_) (fun h => absurd h (by decide))
      refine aw_ic2 115 dX12_readsNumbers_115 ?_
      refine aw_iaddN 116 (i) (2) dX12_readsNumbers_116 rfl rfl ?_
      refine aw_icmp_geN 117 164 (i + 1 + 1) (i + 2) dX12_readsNumbers_117 (by decide) rfl rfl (by omega) (by omega) (fun _ => ?_) (fun h => absurd h (by omega))
      refine aw_aload0 164 dX12_readsNumbers_164 ?_
      refine rw_ga 165 7 dX12_readsNumbers_165 ckF_RX12_22_12 (by decide) (by decide) hW ?_
      refine aw_iload4 168 dX12_readsNumbers_168 ?_
      refine aw_iload6 170 dX12_readsNumbers_170 ?_
      refine rw_st 172 7 ((5 * m) + 1) dX12_readsNumbers_172 hW rfl (show (5 * m) + 1 < 25 by omega) (fun M hW => ?_)
      refine aw_iload1 173 dX12_readsNumbers_173 ?_
      refine aw_bipush 174 116 dX12_readsNumbers_174 (by decide) ?_
      refine aw_icmp_eqN 176 216 (108) (116) dX12_readsNumbers_176 (by decide) rfl rfl (by decide) (by decide) (fun h => absurd h (by decide)) (fun _ => ?_)
      refine aw_iload6 179 dX12_readsNumbers_179 ?_
      refine aw_i2l 181 dX12_readsNumbers_181 ?_
      refine aw_iload1 182 dX12_readsNumbers_182 ?_
      refine aw_bipush 183 113 dX12_readsNumbers_183 (by decide) ?_
      refine aw_icmp_neN 185 194 (108) (113) dX12_readsNumbers_185 (by decide) rfl rfl (by decide) (by decide) (fun _ => ?_) (fun h => absurd h (by decide))
      refine aw_lc1 194 dX12_readsNumbers_194 ?_
      refine aw_iload1 195 dX12_readsNumbers_195 ?_
      refine aw_bipush 196 113 dX12_readsNumbers_196 (by decide) ?_
      refine aw_icmp_neN 198 207 (108) (113) dX12_readsNumbers_198 (by decide) rfl rfl (by decide) (by decide) (fun _ => ?_) (fun h => absurd h (by decide))
      refine aw_ldc2 207 (99) dX12_readsNumbers_207 ckL_RX12_126 ?_
      refine sd_call1 210 dX12_readsNumbers_210 (c_in2 (1) (99) (by decide) (by decide)) ckS_RX12_99 cd_X12_in rfl (Nat.le_of_ble_eq_true rfl) ⟨⟨by decide, by decide⟩, by decide, by decide⟩ rfl ?_
      refine aw_ifeq_b 213 220 dX12_readsNumbers_213 (by decide) (fun h213 => ?_) (fun h213 => ?_)
      · refine aw_ic0 220 dX12_readsNumbers_220 ?_
        refine aw_istore7 221 dX12_readsNumbers_221 rfl ?_
        refine aw_aload0 223 dX12_readsNumbers_223 ?_
        refine aw_iload7 224 dX12_readsNumbers_224 ?_
        refine aw_if_eqN 226 236 (0) dX12_readsNumbers_226 (by decide) rfl (by decide) (fun _ => ?_) (fun h => absurd h (by decide))
        refine aw_iload5 236 dX12_readsNumbers_236 ?_
        refine rw_pi 238 8 dX12_readsNumbers_238 ckF_RX12_159_12 ckP12_8 rfl (by decide) rfl hW (fun M hW => ?_)
        refine aw_iload7 241 dX12_readsNumbers_241 ?_
        refine aw_zret 243 dX12_readsNumbers_243 rfl (by first | rfl | exact bi_nar | decide) (Nat.zero_le _) (Nat.zero_le _) ?_
        have hx : (nI (10 * dv (fun j => τ 30 (b + j)) (i) + dv (fun j => τ 30 (b + j)) (i + 1))).toInt = ((10 * dv (fun j => τ 30 (b + j)) (i) + dv (fun j => τ 30 (b + j)) (i + 1) : Nat) : Int) := nI_toInt (by omega)
        rw [hx] at h213
        have hv : 10 * dv (fun j => τ 30 (b + j)) (i) + dv (fun j => τ 30 (b + j)) (i + 1) = 0 := by omega
        have hq : rdN (fun j => τ 30 (b + j)) n 108 i = (false, i, 0) := by
          unfold rdN
          rw [if_neg (by decide), if_neg (by decide), if_neg (by decide), if_neg (nn g0), if_neg (nn g1), if_pos hv]
        rw [hq]
        exact ⟨by rw [bi_f (show ¬ (false = true) by decide)], _, hW, (by repeat (first | exact Obs.rf _ | refine obs_tu ?_ (by decide))), (by simp only [tu_ne (show (6 : Nat) ≠ 7 by decide), tu_ne (show (6 : Nat) ≠ 8 by decide)]; exact h6), tu_at, (fun j hj => by rw [tu_ne (show (7 : Nat) ≠ 8 by decide), tu_nk (by omega)]; try simp only [tu_ne (show (7 : Nat) ≠ 8 by decide)]), (fun q => by cases q)⟩
      · refine aw_ic1 216 dX12_readsNumbers_216 ?_
        refine aw_goto 217 221 dX12_readsNumbers_217 (by decide) ?_
        refine aw_istore7 221 dX12_readsNumbers_221 rfl ?_
        refine aw_aload0 223 dX12_readsNumbers_223 ?_
        refine aw_iload7 224 dX12_readsNumbers_224 ?_
        refine aw_if_eqN 226 236 (1) dX12_readsNumbers_226 (by decide) rfl (by decide) (fun h => absurd h (by decide)) (fun _ => ?_)
        refine aw_aload0 229 dX12_readsNumbers_229 ?_
        refine rw_gi 230 8 dX12_readsNumbers_230 ckF_RX12_159_12 (by decide) rfl hW ?_
        refine aw_topi (w := nI (i + 1 + 1)) (by rw [tu_ne (by decide), tu_at]) ?_
        refine aw_goto 233 238 dX12_readsNumbers_233 (by decide) ?_
        refine rw_pi 238 8 dX12_readsNumbers_238 ckF_RX12_159_12 ckP12_8 rfl (by decide) rfl hW (fun M hW => ?_)
        refine aw_iload7 241 dX12_readsNumbers_241 ?_
        refine aw_zret 243 dX12_readsNumbers_243 rfl (by first | rfl | exact bi_nar | decide) (Nat.zero_le _) (Nat.zero_le _) ?_
        have hx : (nI (10 * dv (fun j => τ 30 (b + j)) (i) + dv (fun j => τ 30 (b + j)) (i + 1))).toInt = ((10 * dv (fun j => τ 30 (b + j)) (i) + dv (fun j => τ 30 (b + j)) (i + 1) : Nat) : Int) := nI_toInt (by omega)
        rw [hx] at h213
        have hv : ¬ 10 * dv (fun j => τ 30 (b + j)) (i) + dv (fun j => τ 30 (b + j)) (i + 1) = 0 := by omega
        have hq : rdN (fun j => τ 30 (b + j)) n 108 i = (true, i + 1 + 1, 10 * dv (fun j => τ 30 (b + j)) (i) + dv (fun j => τ 30 (b + j)) (i + 1)) := by
          unfold rdN
          rw [if_neg (by decide), if_neg (by decide), if_neg (by decide), if_neg (nn g0), if_neg (nn g1), if_neg hv]
        rw [hq]
        exact ⟨by rw [bi_t rfl], _, hW, (by repeat (first | exact Obs.rf _ | refine obs_tu ?_ (by decide))), (by simp only [tu_ne (show (6 : Nat) ≠ 7 by decide), tu_ne (show (6 : Nat) ≠ 8 by decide)]; exact h6), tu_at, (fun j hj => by rw [tu_ne (show (7 : Nat) ≠ 8 by decide), tu_nk (by omega)]; try simp only [tu_ne (show (7 : Nat) ≠ 8 by decide)]), (fun _ => ⟨by rw [tu_ne (show (7 : Nat) ≠ 8 by decide), tu_nk (by omega)]; (try simp only [tu_ne (show (7 : Nat) ≠ 8 by decide)]); exact h7, fun q => absurd (show (108 : Int32) = 99 ∨ (108 : Int32) = 98 from q) (by decide), fun _ => by rw [tu_ne (show (7 : Nat) ≠ 8 by decide), tu_at]⟩)⟩

set_option maxHeartbeats 4000000 in
set_option maxRecDepth 100000 in
theorem c109_X12_readsNumbers {τ : TT} {b n m i : Nat} (hbn : b + n ≤ 240) (hm : m < 5) (h6 : τ 6 0 = nI m) (h8 : τ 8 0 = nI i) (hi : i ≤ 60) (h7 : τ 7 (5 * m) = 109) : RP mX12_readsNumbers rmX12_readsNumbers [.int 109, .int (nI b), .int (nI n)] τ (some (.int (bi ((rdN (fun j => τ 30 (b + j)) n 109 i).1 = true)))) (rnP τ m 109 (rdN (fun j => τ 30 (b + j)) n 109 i)) := by
  intro M0 hW0
  refine am_of rfl rfl (ls := [some (.ref 25), some (.int 109), some (.int (nI b)), some (.int (nI n)), none, none, none, none]) rfl ?_
  suffices HH : ∀ M, RO τ M0 M → AW mX12_readsNumbers rmX12_readsNumbers (fun r' M' => r' = (some (.int (bi ((rdN (fun j => τ 30 (b + j)) n 109 i).1 = true)))) ∧ ∃ σ, RO σ M0 M' ∧ (rnP τ m 109 (rdN (fun j => τ 30 (b + j)) n 109 i)) σ) 0 [some (.ref 25), some (.int 109), some (.int (nI b)), some (.int (nI n)), none, none, none, none] [] M 0 0 from HH M0 ⟨hW0, Off.rf M0⟩
  intro M hW
  refine aw_ic5 0 dX12_readsNumbers_0 ?_
  refine aw_aload0 1 dX12_readsNumbers_1 ?_
  refine rw_gi 2 6 dX12_readsNumbers_2 ckF_RX12_166_12 (by decide) rfl hW ?_
  refine aw_topi (w := nI m) (h6) ?_
  refine aw_imulN 5 (5) (m) dX12_readsNumbers_5 rfl rfl ?_
  refine aw_ic1 6 dX12_readsNumbers_6 ?_
  refine aw_iaddN 7 (5 * m) (1) dX12_readsNumbers_7 rfl rfl ?_
  refine aw_istore4 8 dX12_readsNumbers_8 rfl ?_
  refine aw_iload1 10 dX12_readsNumbers_10 ?_
  refine aw_bipush 11 99 dX12_readsNumbers_11 (by decide) ?_
  refine aw_icmp_eqN 13 22 (109) (99) dX12_readsNumbers_13 (by decide) rfl rfl (by decide) (by decide) (fun h => absurd h (by decide)) (fun _ => ?_)
  refine aw_iload1 16 dX12_readsNumbers_16 ?_
  refine aw_bipush 17 98 dX12_readsNumbers_17 (by decide) ?_
  refine aw_icmp_neN 19 84 (109) (98) dX12_readsNumbers_19 (by decide) rfl rfl (by decide) (by decide) (fun _ => ?_) (fun h => absurd h (by decide))
  refine aw_aload0 84 dX12_readsNumbers_84 ?_
  refine rw_gi 85 8 dX12_readsNumbers_85 ckF_RX12_159_12 (by decide) rfl hW ?_
  refine aw_topi (w := nI (i)) h8 ?_
  refine aw_istore5 88 dX12_readsNumbers_88 rfl ?_
  refine aw_ic0 90 dX12_readsNumbers_90 ?_
  refine aw_istore6 91 dX12_readsNumbers_91 rfl ?_
  refine aw_iload1 93 dX12_readsNumbers_93 ?_
  refine aw_bipush 94 116 dX12_readsNumbers_94 (by decide) ?_
  refine aw_icmp_eqN 96 164 (109) (116) dX12_readsNumbers_96 (by decide) rfl rfl (by decide) (by decide) (fun h => absurd h (by decide)) (fun _ => ?_)
  refine aw_aload0 99 dX12_readsNumbers_99 ?_
  refine rw_gi 100 8 dX12_readsNumbers_100 ckF_RX12_159_12 (by decide) rfl hW ?_
  refine aw_topi (w := nI (i)) h8 ?_
  refine aw_iload5 103 dX12_readsNumbers_103 ?_
  refine aw_iload1 105 dX12_readsNumbers_105 ?_
  refine aw_bipush 106 113 dX12_readsNumbers_106 (by decide) ?_
  refine aw_icmp_neN 108 115 (109) (113) dX12_readsNumbers_108 (by decide) rfl rfl (by decide) (by decide) (fun _ => ?_) (fun h => absurd h (by decide))
  refine aw_ic2 115 dX12_readsNumbers_115 ?_
  refine aw_iaddN 116 (i) (2) dX12_readsNumbers_116 rfl rfl ?_
  refine aw_icmp_geN 117 164 (i) (i + 2) dX12_readsNumbers_117 (by decide) rfl rfl (by omega) (by omega) (fun h => absurd h (by omega)) (fun _ => ?_)
  refine aw_aload0 120 dX12_readsNumbers_120 ?_
  refine aw_iload2 121 dX12_readsNumbers_121 ?_
  refine aw_iload3 122 dX12_readsNumbers_122 ?_
  have cc0 : RD mX12_isDigit rmX12_isDigit [.int (nI b), .int (nI n)] τ (some (.int (bi (isD (fun j => τ 30 (b + j)) n (i))))) τ := by
    have := c_X12_isDigit (τ := τ) (b := b) (n := n) (i := i) hbn h8 (by omega)
    exact this
  refine rw_call1 123 dX12_readsNumbers_123 cc0 ckV_RX12_169 cd_X12_isDigit rfl hW rfl (Nat.le_of_ble_eq_true rfl) ⟨⟨by decide, by decide⟩, by decide, by decide⟩ rfl (fun M hW => ?_)
  refine aw_ifeq_b 126 164 dX12_readsNumbers_126 (by decide) (fun g0 => ?_) (fun g0 => ?_)
  · refine aw_aload0 164 dX12_readsNumbers_164 ?_
    refine rw_ga 165 7 dX12_readsNumbers_165 ckF_RX12_22_12 (by decide) (by decide) hW ?_
    refine aw_iload4 168 dX12_readsNumbers_168 ?_
    refine aw_iload6 170 dX12_readsNumbers_170 ?_
    refine rw_st 172 7 ((5 * m) + 1) dX12_readsNumbers_172 hW rfl (show (5 * m) + 1 < 25 by omega) (fun M hW => ?_)
    refine aw_iload1 173 dX12_readsNumbers_173 ?_
    refine aw_bipush 174 116 dX12_readsNumbers_174 (by decide) ?_
    refine aw_icmp_eqN 176 216 (109) (116) dX12_readsNumbers_176 (by decide) rfl rfl (by decide) (by decide) (fun h => absurd h (by decide)) (fun _ => ?_)
    refine aw_iload6 179 dX12_readsNumbers_179 ?_
    refine aw_i2l 181 dX12_readsNumbers_181 ?_
    refine aw_iload1 182 dX12_readsNumbers_182 ?_
    refine aw_bipush 183 113 dX12_readsNumbers_183 (by decide) ?_
    refine aw_icmp_neN 185 194 (109) (113) dX12_readsNumbers_185 (by decide) rfl rfl (by decide) (by decide) (fun _ => ?_) (fun h => absurd h (by decide))
    refine aw_lc1 194 dX12_readsNumbers_194 ?_
    refine aw_iload1 195 dX12_readsNumbers_195 ?_
    refine aw_bipush 196 113 dX12_readsNumbers_196 (by decide) ?_
    refine aw_icmp_neN 198 207 (109) (113) dX12_readsNumbers_198 (by decide) rfl rfl (by decide) (by decide) (fun _ => ?_) (fun h => absurd h (by decide))
    refine aw_ldc2 207 (99) dX12_readsNumbers_207 ckL_RX12_126 ?_
    refine sd_call1 210 dX12_readsNumbers_210 (c_in2 (1) (99) (by decide) (by decide)) ckS_RX12_99 cd_X12_in rfl (Nat.le_of_ble_eq_true rfl) ⟨⟨by decide, by decide⟩, by decide, by decide⟩ rfl ?_
    refine aw_ifeq_b 213 220 dX12_readsNumbers_213 (by decide) (fun h213 => ?_) (fun h213 => ?_)
    · refine aw_ic0 220 dX12_readsNumbers_220 ?_
      refine aw_istore7 221 dX12_readsNumbers_221 rfl ?_
      refine aw_aload0 223 dX12_readsNumbers_223 ?_
      refine aw_iload7 224 dX12_readsNumbers_224 ?_
      refine aw_if_eqN 226 236 (0) dX12_readsNumbers_226 (by decide) rfl (by decide) (fun _ => ?_) (fun h => absurd h (by decide))
      refine aw_iload5 236 dX12_readsNumbers_236 ?_
      refine rw_pi 238 8 dX12_readsNumbers_238 ckF_RX12_159_12 ckP12_8 rfl (by decide) rfl hW (fun M hW => ?_)
      refine aw_iload7 241 dX12_readsNumbers_241 ?_
      refine aw_zret 243 dX12_readsNumbers_243 rfl (by first | rfl | exact bi_nar | decide) (Nat.zero_le _) (Nat.zero_le _) ?_
      have hx : (0 : Int32).toInt = 0 := by decide
      rw [hx] at h213
      have hq : rdN (fun j => τ 30 (b + j)) n 109 i = (false, i, 0) := by
        unfold rdN
        rw [if_neg (by decide), if_neg (by decide), if_neg (by decide), if_pos g0]
      rw [hq]
      exact ⟨by rw [bi_f (show ¬ (false = true) by decide)], _, hW, (by repeat (first | exact Obs.rf _ | refine obs_tu ?_ (by decide))), (by simp only [tu_ne (show (6 : Nat) ≠ 7 by decide), tu_ne (show (6 : Nat) ≠ 8 by decide)]; exact h6), tu_at, (fun j hj => by rw [tu_ne (show (7 : Nat) ≠ 8 by decide), tu_nk (by omega)]; try simp only [tu_ne (show (7 : Nat) ≠ 8 by decide)]), (fun q => by cases q)⟩
    · refine aw_ic1 216 dX12_readsNumbers_216 ?_
      refine aw_goto 217 221 dX12_readsNumbers_217 (by decide) ?_
      refine aw_istore7 221 dX12_readsNumbers_221 rfl ?_
      refine aw_aload0 223 dX12_readsNumbers_223 ?_
      refine aw_iload7 224 dX12_readsNumbers_224 ?_
      refine aw_if_eqN 226 236 (1) dX12_readsNumbers_226 (by decide) rfl (by decide) (fun h => absurd h (by decide)) (fun _ => ?_)
      refine aw_aload0 229 dX12_readsNumbers_229 ?_
      refine rw_gi 230 8 dX12_readsNumbers_230 ckF_RX12_159_12 (by decide) rfl hW ?_
      refine aw_topi (w := nI (i)) (by rw [tu_ne (by decide)]; exact h8) ?_
      refine aw_goto 233 238 dX12_readsNumbers_233 (by decide) ?_
      refine rw_pi 238 8 dX12_readsNumbers_238 ckF_RX12_159_12 ckP12_8 rfl (by decide) rfl hW (fun M hW => ?_)
      refine aw_iload7 241 dX12_readsNumbers_241 ?_
      refine aw_zret 243 dX12_readsNumbers_243 rfl (by first | rfl | exact bi_nar | decide) (Nat.zero_le _) (Nat.zero_le _) ?_
      have hx : (0 : Int32).toInt = 0 := by decide
      rw [hx] at h213
      exact absurd h213 (by omega)
  · have v0 := isD_v g0
    refine aw_bipush 129 10 dX12_readsNumbers_129 (by decide) ?_
    refine aw_iload6 131 dX12_readsNumbers_131 ?_
    refine aw_imulN 133 (10) (0) dX12_readsNumbers_133 rfl rfl ?_
    refine aw_aload0 134 dX12_readsNumbers_134 ?_
    refine rw_ga 135 30 dX12_readsNumbers_135 ckF_RX12_73_12 (by decide) (by decide) hW ?_
    refine aw_iload2 138 dX12_readsNumbers_138 ?_
    refine aw_aload0 139 dX12_readsNumbers_139 ?_
    refine rw_gi 140 8 dX12_readsNumbers_140 ckF_RX12_159_12 (by decide) rfl hW ?_
    refine aw_topi (w := nI (i)) h8 ?_
    refine aw_iaddN 143 (b) (i) dX12_readsNumbers_143 rfl rfl ?_
    refine rw_ld 144 30 (b + i) dX12_readsNumbers_144 hW rfl (show b + i < 240 by have := g0.1; omega) ?_
    refine aw_topi (w := nI (48 + dv (fun j => τ 30 (b + j)) (i))) v0.2.1 ?_
    refine aw_iaddN 145 (10 * 0) (48 + dv (fun j => τ 30 (b + j)) (i)) dX12_readsNumbers_145 rfl rfl ?_
    refine aw_bipush 146 48 dX12_readsNumbers_146 (by decide) ?_
    refine aw_isubN 148 ((10 * 0) + (48 + dv (fun j => τ 30 (b + j)) (i))) (48) dX12_readsNumbers_148 rfl rfl (by omega) ?_
    refine aw_topi (w := nI (dv (fun j => τ 30 (b + j)) (i))) (congrArg nI (by omega)) ?_
    refine aw_istore6 149 dX12_readsNumbers_149 rfl ?_
    refine aw_aload0 151 dX12_readsNumbers_151 ?_
    refine aw_dup 152 dX12_readsNumbers_152 rfl ?_
    refine rw_gi 153 8 dX12_readsNumbers_153 ckF_RX12_159_12 (by decide) rfl hW ?_
    refine aw_topi (w := nI (i)) h8 ?_
    refine aw_ic1 156 dX12_readsNumbers_156 ?_
    refine aw_iaddN 157 (i) (1) dX12_readsNumbers_157 rfl rfl ?_
    refine rw_pi 158 8 dX12_readsNumbers_158 ckF_RX12_159_12 ckP12_8 rfl (by decide) rfl hW (fun M hW => ?_)
    refine aw_goto 161 93 dX12_readsNumbers_161 (by decide) ?_
    refine aw_iload1 93 dX12_readsNumbers_93 ?_
    refine aw_bipush 94 116 dX12_readsNumbers_94 (by decide) ?_
    refine aw_icmp_eqN 96 164 (109) (116) dX12_readsNumbers_96 (by decide) rfl rfl (by decide) (by decide) (fun h => absurd h (by decide)) (fun _ => ?_)
    refine aw_aload0 99 dX12_readsNumbers_99 ?_
    refine rw_gi 100 8 dX12_readsNumbers_100 ckF_RX12_159_12 (by decide) rfl hW ?_
    refine aw_topi (w := nI (i + 1)) (by rw [tu_at]) ?_
    refine aw_iload5 103 dX12_readsNumbers_103 ?_
    refine aw_iload1 105 dX12_readsNumbers_105 ?_
    refine aw_bipush 106 113 dX12_readsNumbers_106 (by decide) ?_
    refine aw_icmp_neN 108 115 (109) (113) dX12_readsNumbers_108 (by decide) rfl rfl (by decide) (by decide) (fun _ => ?_) (fun h => absurd h (by decide))
    refine aw_ic2 115 dX12_readsNumbers_115 ?_
    refine aw_iaddN 116 (i) (2) dX12_readsNumbers_116 rfl rfl ?_
    refine aw_icmp_geN 117 164 (i + 1) (i + 2) dX12_readsNumbers_117 (by decide) rfl rfl (by omega) (by omega) (fun h => absurd h (by omega)) (fun _ => ?_)
    refine aw_aload0 120 dX12_readsNumbers_120 ?_
    refine aw_iload2 121 dX12_readsNumbers_121 ?_
    refine aw_iload3 122 dX12_readsNumbers_122 ?_
    have cc1 : RD mX12_isDigit rmX12_isDigit [.int (nI b), .int (nI n)] (tu τ 8 0 (nI (i + 1))) (some (.int (bi (isD (fun j => τ 30 (b + j)) n (i + 1))))) (tu τ 8 0 (nI (i + 1))) := by
      have := c_X12_isDigit (τ := (tu τ 8 0 (nI (i + 1)))) (b := b) (n := n) (i := i + 1) hbn (by rw [tu_at]) (by omega)
      simpa only [tu_ne (show (30 : Nat) ≠ 8 by decide)] using this
    refine rw_call1 123 dX12_readsNumbers_123 cc1 ckV_RX12_169 cd_X12_isDigit rfl hW rfl (Nat.le_of_ble_eq_true rfl) ⟨⟨by decide, by decide⟩, by decide, by decide⟩ rfl (fun M hW => ?_)
    refine aw_ifeq_b 126 164 dX12_readsNumbers_126 (by decide) (fun g1 => ?_) (fun g1 => ?_)
    · refine aw_aload0 164 dX12_readsNumbers_164 ?_
      refine rw_ga 165 7 dX12_readsNumbers_165 ckF_RX12_22_12 (by decide) (by decide) hW ?_
      refine aw_iload4 168 dX12_readsNumbers_168 ?_
      refine aw_iload6 170 dX12_readsNumbers_170 ?_
      refine rw_st 172 7 ((5 * m) + 1) dX12_readsNumbers_172 hW rfl (show (5 * m) + 1 < 25 by omega) (fun M hW => ?_)
      refine aw_iload1 173 dX12_readsNumbers_173 ?_
      refine aw_bipush 174 116 dX12_readsNumbers_174 (by decide) ?_
      refine aw_icmp_eqN 176 216 (109) (116) dX12_readsNumbers_176 (by decide) rfl rfl (by decide) (by decide) (fun h => absurd h (by decide)) (fun _ => ?_)
      refine aw_iload6 179 dX12_readsNumbers_179 ?_
      refine aw_i2l 181 dX12_readsNumbers_181 ?_
      refine aw_iload1 182 dX12_readsNumbers_182 ?_
      refine aw_bipush 183 113 dX12_readsNumbers_183 (by decide) ?_
      refine aw_icmp_neN 185 194 (109) (113) dX12_readsNumbers_185 (by decide) rfl rfl (by decide) (by decide) (fun _ => ?_) (fun h => absurd h (by decide))
      refine aw_lc1 194 dX12_readsNumbers_194 ?_
      refine aw_iload1 195 dX12_readsNumbers_195 ?_
      refine aw_bipush 196 113 dX12_readsNumbers_196 (by decide) ?_
      refine aw_icmp_neN 198 207 (109) (113) dX12_readsNumbers_198 (by decide) rfl rfl (by decide) (by decide) (fun _ => ?_) (fun h => absurd h (by decide))
      refine aw_ldc2 207 (99) dX12_readsNumbers_207 ckL_RX12_126 ?_
      refine sd_call1 210 dX12_readsNumbers_210 (c_in2 (1) (99) (by decide) (by decide)) ckS_RX12_99 cd_X12_in rfl (Nat.le_of_ble_eq_true rfl) ⟨⟨by decide, by decide⟩, by decide, by decide⟩ rfl ?_
      refine aw_ifeq_b 213 220 dX12_readsNumbers_213 (by decide) (fun h213 => ?_) (fun h213 => ?_)
      · refine aw_ic0 220 dX12_readsNumbers_220 ?_
        refine aw_istore7 221 dX12_readsNumbers_221 rfl ?_
        refine aw_aload0 223 dX12_readsNumbers_223 ?_
        refine aw_iload7 224 dX12_readsNumbers_224 ?_
        refine aw_if_eqN 226 236 (0) dX12_readsNumbers_226 (by decide) rfl (by decide) (fun _ => ?_) (fun h => absurd h (by decide))
        refine aw_iload5 236 dX12_readsNumbers_236 ?_
        refine rw_pi 238 8 dX12_readsNumbers_238 ckF_RX12_159_12 ckP12_8 rfl (by decide) rfl hW (fun M hW => ?_)
        refine aw_iload7 241 dX12_readsNumbers_241 ?_
        refine aw_zret 243 dX12_readsNumbers_243 rfl (by first | rfl | exact bi_nar | decide) (Nat.zero_le _) (Nat.zero_le _) ?_
        have hx : (nI (dv (fun j => τ 30 (b + j)) (i))).toInt = ((dv (fun j => τ 30 (b + j)) (i) : Nat) : Int) := nI_toInt (by omega)
        rw [hx] at h213
        have hv : dv (fun j => τ 30 (b + j)) (i) = 0 := by omega
        have hq : rdN (fun j => τ 30 (b + j)) n 109 i = (false, i, 0) := by
          unfold rdN
          rw [if_neg (by decide), if_neg (by decide), if_neg (by decide), if_neg (nn g0), if_pos g1, if_pos hv]
        rw [hq]
        exact ⟨by rw [bi_f (show ¬ (false = true) by decide)], _, hW, (by repeat (first | exact Obs.rf _ | refine obs_tu ?_ (by decide))), (by simp only [tu_ne (show (6 : Nat) ≠ 7 by decide), tu_ne (show (6 : Nat) ≠ 8 by decide)]; exact h6), tu_at, (fun j hj => by rw [tu_ne (show (7 : Nat) ≠ 8 by decide), tu_nk (by omega)]; try simp only [tu_ne (show (7 : Nat) ≠ 8 by decide)]), (fun q => by cases q)⟩
      · refine aw_ic1 216 dX12_readsNumbers_216 ?_
        refine aw_goto 217 221 dX12_readsNumbers_217 (by decide) ?_
        refine aw_istore7 221 dX12_readsNumbers_221 rfl ?_
        refine aw_aload0 223 dX12_readsNumbers_223 ?_
        refine aw_iload7 224 dX12_readsNumbers_224 ?_
        refine aw_if_eqN 226 236 (1) dX12_readsNumbers_226 (by decide) rfl (by decide) (fun h => absurd h (by decide)) (fun _ => ?_)
        refine aw_aload0 229 dX12_readsNumbers_229 ?_
        refine rw_gi 230 8 dX12_readsNumbers_230 ckF_RX12_159_12 (by decide) rfl hW ?_
        refine aw_topi (w := nI (i + 1)) (by rw [tu_ne (by decide), tu_at]) ?_
        refine aw_goto 233 238 dX12_readsNumbers_233 (by decide) ?_
        refine rw_pi 238 8 dX12_readsNumbers_238 ckF_RX12_159_12 ckP12_8 rfl (by decide) rfl hW (fun M hW => ?_)
        refine aw_iload7 241 dX12_readsNumbers_241 ?_
        refine aw_zret 243 dX12_readsNumbers_243 rfl (by first | rfl | exact bi_nar | decide) (Nat.zero_le _) (Nat.zero_le _) ?_
        have hx : (nI (dv (fun j => τ 30 (b + j)) (i))).toInt = ((dv (fun j => τ 30 (b + j)) (i) : Nat) : Int) := nI_toInt (by omega)
        rw [hx] at h213
        have hv : ¬ dv (fun j => τ 30 (b + j)) (i) = 0 := by omega
        have hq : rdN (fun j => τ 30 (b + j)) n 109 i = (true, i + 1, dv (fun j => τ 30 (b + j)) (i)) := by
          unfold rdN
          rw [if_neg (by decide), if_neg (by decide), if_neg (by decide), if_neg (nn g0), if_pos g1, if_neg hv]
        rw [hq]
        exact ⟨by rw [bi_t rfl], _, hW, (by repeat (first | exact Obs.rf _ | refine obs_tu ?_ (by decide))), (by simp only [tu_ne (show (6 : Nat) ≠ 7 by decide), tu_ne (show (6 : Nat) ≠ 8 by decide)]; exact h6), tu_at, (fun j hj => by rw [tu_ne (show (7 : Nat) ≠ 8 by decide), tu_nk (by omega)]; try simp only [tu_ne (show (7 : Nat) ≠ 8 by decide)]), (fun _ => ⟨by rw [tu_ne (show (7 : Nat) ≠ 8 by decide), tu_nk (by omega)]; (try simp only [tu_ne (show (7 : Nat) ≠ 8 by decide)]); exact h7, fun q => absurd (show (109 : Int32) = 99 ∨ (109 : Int32) = 98 from q) (by decide), fun _ => by rw [tu_ne (show (7 : Nat) ≠ 8 by decide), tu_at]⟩)⟩
    · have v1 := isD_v g1
      refine aw_bipush 129 10 dX12_readsNumbers_129 (by decide) ?_
      refine aw_iload6 131 dX12_readsNumbers_131 ?_
      refine aw_imulN 133 (10) (dv (fun j => τ 30 (b + j)) (i)) dX12_readsNumbers_133 rfl rfl ?_
      refine aw_aload0 134 dX12_readsNumbers_134 ?_
      refine rw_ga 135 30 dX12_readsNumbers_135 ckF_RX12_73_12 (by decide) (by decide) hW ?_
      refine aw_iload2 138 dX12_readsNumbers_138 ?_
      refine aw_aload0 139 dX12_readsNumbers_139 ?_
      refine rw_gi 140 8 dX12_readsNumbers_140 ckF_RX12_159_12 (by decide) rfl hW ?_
      refine aw_topi (w := nI (i + 1)) (by rw [tu_at]) ?_
      refine aw_iaddN 143 (b) (i + 1) dX12_readsNumbers_143 rfl rfl ?_
      refine rw_ld 144 30 (b + (i + 1)) dX12_readsNumbers_144 hW rfl (show b + (i + 1) < 240 by have := g1.1; omega) ?_
      refine aw_topi (w := nI (48 + dv (fun j => τ 30 (b + j)) (i + 1))) (by rw [tu_ne (by decide)]; exact v1.2.1) ?_
      refine aw_iaddN 145 (10 * (dv (fun j => τ 30 (b + j)) (i))) (48 + dv (fun j => τ 30 (b + j)) (i + 1)) dX12_readsNumbers_145 rfl rfl ?_
      refine aw_bipush 146 48 dX12_readsNumbers_146 (by decide) ?_
      refine aw_isubN 148 ((10 * (dv (fun j => τ 30 (b + j)) (i))) + (48 + dv (fun j => τ 30 (b + j)) (i + 1))) (48) dX12_readsNumbers_148 rfl rfl (by omega) ?_
      refine aw_topi (w := nI (10 * dv (fun j => τ 30 (b + j)) (i) + dv (fun j => τ 30 (b + j)) (i + 1))) (congrArg nI (by omega)) ?_
      refine aw_istore6 149 dX12_readsNumbers_149 rfl ?_
      refine aw_aload0 151 dX12_readsNumbers_151 ?_
      refine aw_dup 152 dX12_readsNumbers_152 rfl ?_
      refine rw_gi 153 8 dX12_readsNumbers_153 ckF_RX12_159_12 (by decide) rfl hW ?_
      refine aw_topi (w := nI (i + 1)) (by rw [tu_at]) ?_
      refine aw_ic1 156 dX12_readsNumbers_156 ?_
      refine aw_iaddN 157 (i + 1) (1) dX12_readsNumbers_157 rfl rfl ?_
      refine rw_pi 158 8 dX12_readsNumbers_158 ckF_RX12_159_12 ckP12_8 rfl (by decide) rfl hW (fun M hW => ?_)
      refine aw_goto 161 93 dX12_readsNumbers_161 (by decide) ?_
      refine aw_iload1 93 dX12_readsNumbers_93 ?_
      refine aw_bipush 94 116 dX12_readsNumbers_94 (by decide) ?_
      refine aw_icmp_eqN 96 164 (109) (116) dX12_readsNumbers_96 (by decide) rfl rfl (by decide) (by decide) (fun h => absurd h (by decide)) (fun _ => ?_)
      refine aw_aload0 99 dX12_readsNumbers_99 ?_
      refine rw_gi 100 8 dX12_readsNumbers_100 ckF_RX12_159_12 (by decide) rfl hW ?_
      refine aw_topi (w := nI (i + 1 + 1)) (by rw [tu_at]) ?_
      refine aw_iload5 103 dX12_readsNumbers_103 ?_
      refine aw_iload1 105 dX12_readsNumbers_105 ?_
      refine aw_bipush 106 113 dX12_readsNumbers_106 (by decide) ?_
      refine aw_icmp_neN 108 115 (109) (113) dX12_readsNumbers_108 (by decide) rfl rfl (by decide) (by decide) (fun _ => ?_) (fun h => absurd h (by decide))
      refine aw_ic2 115 dX12_readsNumbers_115 ?_
      refine aw_iaddN 116 (i) (2) dX12_readsNumbers_116 rfl rfl ?_
      refine aw_icmp_geN 117 164 (i + 1 + 1) (i + 2) dX12_readsNumbers_117 (by decide) rfl rfl (by omega) (by omega) (fun _ => ?_) (fun h => absurd h (by omega))
      refine aw_aload0 164 dX12_readsNumbers_164 ?_
      refine rw_ga 165 7 dX12_readsNumbers_165 ckF_RX12_22_12 (by decide) (by decide) hW ?_
      refine aw_iload4 168 dX12_readsNumbers_168 ?_
      refine aw_iload6 170 dX12_readsNumbers_170 ?_
      refine rw_st 172 7 ((5 * m) + 1) dX12_readsNumbers_172 hW rfl (show (5 * m) + 1 < 25 by omega) (fun M hW => ?_)
      refine aw_iload1 173 dX12_readsNumbers_173 ?_
      refine aw_bipush 174 116 dX12_readsNumbers_174 (by decide) ?_
      refine aw_icmp_eqN 176 216 (109) (116) dX12_readsNumbers_176 (by decide) rfl rfl (by decide) (by decide) (fun h => absurd h (by decide)) (fun _ => ?_)
      refine aw_iload6 179 dX12_readsNumbers_179 ?_
      refine aw_i2l 181 dX12_readsNumbers_181 ?_
      refine aw_iload1 182 dX12_readsNumbers_182 ?_
      refine aw_bipush 183 113 dX12_readsNumbers_183 (by decide) ?_
      refine aw_icmp_neN 185 194 (109) (113) dX12_readsNumbers_185 (by decide) rfl rfl (by decide) (by decide) (fun _ => ?_) (fun h => absurd h (by decide))
      refine aw_lc1 194 dX12_readsNumbers_194 ?_
      refine aw_iload1 195 dX12_readsNumbers_195 ?_
      refine aw_bipush 196 113 dX12_readsNumbers_196 (by decide) ?_
      refine aw_icmp_neN 198 207 (109) (113) dX12_readsNumbers_198 (by decide) rfl rfl (by decide) (by decide) (fun _ => ?_) (fun h => absurd h (by decide))
      refine aw_ldc2 207 (99) dX12_readsNumbers_207 ckL_RX12_126 ?_
      refine sd_call1 210 dX12_readsNumbers_210 (c_in2 (1) (99) (by decide) (by decide)) ckS_RX12_99 cd_X12_in rfl (Nat.le_of_ble_eq_true rfl) ⟨⟨by decide, by decide⟩, by decide, by decide⟩ rfl ?_
      refine aw_ifeq_b 213 220 dX12_readsNumbers_213 (by decide) (fun h213 => ?_) (fun h213 => ?_)
      · refine aw_ic0 220 dX12_readsNumbers_220 ?_
        refine aw_istore7 221 dX12_readsNumbers_221 rfl ?_
        refine aw_aload0 223 dX12_readsNumbers_223 ?_
        refine aw_iload7 224 dX12_readsNumbers_224 ?_
        refine aw_if_eqN 226 236 (0) dX12_readsNumbers_226 (by decide) rfl (by decide) (fun _ => ?_) (fun h => absurd h (by decide))
        refine aw_iload5 236 dX12_readsNumbers_236 ?_
        refine rw_pi 238 8 dX12_readsNumbers_238 ckF_RX12_159_12 ckP12_8 rfl (by decide) rfl hW (fun M hW => ?_)
        refine aw_iload7 241 dX12_readsNumbers_241 ?_
        refine aw_zret 243 dX12_readsNumbers_243 rfl (by first | rfl | exact bi_nar | decide) (Nat.zero_le _) (Nat.zero_le _) ?_
        have hx : (nI (10 * dv (fun j => τ 30 (b + j)) (i) + dv (fun j => τ 30 (b + j)) (i + 1))).toInt = ((10 * dv (fun j => τ 30 (b + j)) (i) + dv (fun j => τ 30 (b + j)) (i + 1) : Nat) : Int) := nI_toInt (by omega)
        rw [hx] at h213
        have hv : 10 * dv (fun j => τ 30 (b + j)) (i) + dv (fun j => τ 30 (b + j)) (i + 1) = 0 := by omega
        have hq : rdN (fun j => τ 30 (b + j)) n 109 i = (false, i, 0) := by
          unfold rdN
          rw [if_neg (by decide), if_neg (by decide), if_neg (by decide), if_neg (nn g0), if_neg (nn g1), if_pos hv]
        rw [hq]
        exact ⟨by rw [bi_f (show ¬ (false = true) by decide)], _, hW, (by repeat (first | exact Obs.rf _ | refine obs_tu ?_ (by decide))), (by simp only [tu_ne (show (6 : Nat) ≠ 7 by decide), tu_ne (show (6 : Nat) ≠ 8 by decide)]; exact h6), tu_at, (fun j hj => by rw [tu_ne (show (7 : Nat) ≠ 8 by decide), tu_nk (by omega)]; try simp only [tu_ne (show (7 : Nat) ≠ 8 by decide)]), (fun q => by cases q)⟩
      · refine aw_ic1 216 dX12_readsNumbers_216 ?_
        refine aw_goto 217 221 dX12_readsNumbers_217 (by decide) ?_
        refine aw_istore7 221 dX12_readsNumbers_221 rfl ?_
        refine aw_aload0 223 dX12_readsNumbers_223 ?_
        refine aw_iload7 224 dX12_readsNumbers_224 ?_
        refine aw_if_eqN 226 236 (1) dX12_readsNumbers_226 (by decide) rfl (by decide) (fun h => absurd h (by decide)) (fun _ => ?_)
        refine aw_aload0 229 dX12_readsNumbers_229 ?_
        refine rw_gi 230 8 dX12_readsNumbers_230 ckF_RX12_159_12 (by decide) rfl hW ?_
        refine aw_topi (w := nI (i + 1 + 1)) (by rw [tu_ne (by decide), tu_at]) ?_
        refine aw_goto 233 238 dX12_readsNumbers_233 (by decide) ?_
        refine rw_pi 238 8 dX12_readsNumbers_238 ckF_RX12_159_12 ckP12_8 rfl (by decide) rfl hW (fun M hW => ?_)
        refine aw_iload7 241 dX12_readsNumbers_241 ?_
        refine aw_zret 243 dX12_readsNumbers_243 rfl (by first | rfl | exact bi_nar | decide) (Nat.zero_le _) (Nat.zero_le _) ?_
        have hx : (nI (10 * dv (fun j => τ 30 (b + j)) (i) + dv (fun j => τ 30 (b + j)) (i + 1))).toInt = ((10 * dv (fun j => τ 30 (b + j)) (i) + dv (fun j => τ 30 (b + j)) (i + 1) : Nat) : Int) := nI_toInt (by omega)
        rw [hx] at h213
        have hv : ¬ 10 * dv (fun j => τ 30 (b + j)) (i) + dv (fun j => τ 30 (b + j)) (i + 1) = 0 := by omega
        have hq : rdN (fun j => τ 30 (b + j)) n 109 i = (true, i + 1 + 1, 10 * dv (fun j => τ 30 (b + j)) (i) + dv (fun j => τ 30 (b + j)) (i + 1)) := by
          unfold rdN
          rw [if_neg (by decide), if_neg (by decide), if_neg (by decide), if_neg (nn g0), if_neg (nn g1), if_neg hv]
        rw [hq]
        exact ⟨by rw [bi_t rfl], _, hW, (by repeat (first | exact Obs.rf _ | refine obs_tu ?_ (by decide))), (by simp only [tu_ne (show (6 : Nat) ≠ 7 by decide), tu_ne (show (6 : Nat) ≠ 8 by decide)]; exact h6), tu_at, (fun j hj => by rw [tu_ne (show (7 : Nat) ≠ 8 by decide), tu_nk (by omega)]; try simp only [tu_ne (show (7 : Nat) ≠ 8 by decide)]), (fun _ => ⟨by rw [tu_ne (show (7 : Nat) ≠ 8 by decide), tu_nk (by omega)]; (try simp only [tu_ne (show (7 : Nat) ≠ 8 by decide)]); exact h7, fun q => absurd (show (109 : Int32) = 99 ∨ (109 : Int32) = 98 from q) (by decide), fun _ => by rw [tu_ne (show (7 : Nat) ≠ 8 by decide), tu_at]⟩)⟩

theorem c_X12_readsNumbers {τ : TT} {b n m i : Nat} {c : Int32} (hc : isKd c) (hbn : b + n ≤ 240) (hm : m < 5) (h6 : τ 6 0 = nI m) (h8 : τ 8 0 = nI i) (hi : i ≤ 60) (h7 : τ 7 (5 * m) = c) : RP mX12_readsNumbers rmX12_readsNumbers [.int c, .int (nI b), .int (nI n)] τ (some (.int (bi ((rdN (fun j => τ 30 (b + j)) n c i).1 = true)))) (rnP τ m c (rdN (fun j => τ 30 (b + j)) n c i)) := by
  rcases hc with rfl | rfl | rfl | rfl | rfl | rfl
  · exact c99_X12_readsNumbers hbn hm h6 h8 hi h7
  · exact c98_X12_readsNumbers hbn hm h6 h8 hi h7
  · exact c116_X12_readsNumbers hbn hm h6 h8 hi h7
  · exact c108_X12_readsNumbers hbn hm h6 h8 hi h7
  · exact c109_X12_readsNumbers hbn hm h6 h8 hi h7
  · exact c113_X12_readsNumbers hbn hm h6 h8 hi h7
theorem rdN_le {t : Nat → Int32} {n i : Nat} {c : Int32} (hi : i ≤ n + 1) : (rdN t n c i).2.1 ≤ n + 1 ∧ ((rdN t n c i).1 = true → (rdN t n c i).2.1 ≤ n ∨ (rdN t n c i).2.1 = i) := by
  unfold rdN
  repeat' split
  all_goals (refine ⟨?_, ?_⟩)
  all_goals (try (intro hq; first | (exact Or.inr rfl) | (cases hq; done) | skip))
  all_goals (simp only [Classical.not_not] at *)
  all_goals (try (have := ‹isD t n i›.1))
  all_goals (try (have := ‹isD t n (i + 1)›.1))
  all_goals (try (have := ‹isD t n (i + 2)›.1))
  all_goals (try (have := ‹isD t n (i + 3)›.1))
  all_goals (try (have := ‹isD t n i ∧ 2 ≤ dv t i›.1.1))
  all_goals omega
def raR (q : Nat ⊕ List (Int32 × Nat)) : Int32 := match q with
  | .inl p => nI p
  | .inr _ => -1
def raP (τ : TT) (q : Nat ⊕ List (Int32 × Nat)) (σ : TT) : Prop := Obs σ τ ∧ ∀ l, q = .inr l → σ 6 0 = nI l.length ∧ l.length ≤ 5 ∧ ∀ j, j < l.length → ∃ a, l[j]? = some a ∧ actR (σ 7) (5 * j) a
theorem actR_of {A B : Nat → Int32} {k : Nat} {q : Int32 × Nat} (h : actR A k q) (he : ∀ j, k ≤ j → j < k + 5 → B j = A j) : actR B k q := by
  obtain ⟨h1, h2, h3⟩ := h
  refine ⟨(he k (by omega) (by omega)).trans h1, fun g => ?_, fun g => (he (k + 1) (by omega) (by omega)).trans (h3 g)⟩
  obtain ⟨a, b, c, d⟩ := h2 g
  exact ⟨(he _ (by omega) (by omega)).trans a, (he _ (by omega) (by omega)).trans b, (he _ (by omega) (by omega)).trans c, (he _ (by omega) (by omega)).trans d⟩
theorem rdA_s {t : Nat → Int32} {n f i : Nat} {l : List (Int32 × Nat)} : rdA t n (f + 1) i l = if ¬ isKd (cdA t n i) then .inl i else if (rdN t n (cdA t n i) (i + 1)).1 = false then .inl (rdN t n (cdA t n i) (i + 1)).2.1
    else if n ≤ (rdN t n (cdA t n i) (i + 1)).2.1 then .inr (l ++ [(cdA t n i, (rdN t n (cdA t n i) (i + 1)).2.2)])
    else if ¬ t (rdN t n (cdA t n i) (i + 1)).2.1 = 59 ∨ f = 0 then .inl (rdN t n (cdA t n i) (i + 1)).2.1
    else rdA t n f ((rdN t n (cdA t n i) (i + 1)).2.1 + 1) (l ++ [(cdA t n i, (rdN t n (cdA t n i) (i + 1)).2.2)]) := rfl

theorem act_ext {A B : Nat → Int32} {l : List (Int32 × Nat)} {m : Nat} {q : Int32 × Nat} (hl : l.length = m) (h : ∀ j, j < m → ∃ a, l[j]? = some a ∧ actR A (5 * j) a) (he : ∀ j, j < 5 * m → B j = A j) (hq : actR B (5 * m) q) : ∀ j, j < m + 1 → ∃ a, (l ++ [q])[j]? = some a ∧ actR B (5 * j) a := by
  intro j hj
  by_cases hjm : j < m
  · obtain ⟨a, ha, hb⟩ := h j hjm
    exact ⟨a, by rw [List.getElem?_append_left (by omega)]; exact ha, actR_of hb (fun k h1 h2 => he k (by omega))⟩
  · have hje : j = m := by omega
    subst hje
    exact ⟨q, by rw [List.getElem?_append_right (by omega), hl, Nat.sub_self]; rfl, hq⟩
theorem isKd_lt {t : Nat → Int32} {n i : Nat} (h : isKd (cdA t n i)) : i < n ∧ cdA t n i = t i := by
  by_cases hi : i < n
  · exact ⟨hi, if_pos hi⟩
  · rw [show cdA t n i = 0 from if_neg hi] at h
    exact absurd h (by decide)

def rmX12_readActs : Room := { frames := 3, cells := 0, slots := 0, locals := 74 }
set_option maxHeartbeats 4000000 in
set_option maxRecDepth 100000 in
theorem c_X12_readActs {τ : TT} {b n : Nat} (hbn : b + n ≤ 240) (hn : n ≤ 60) : RP mX12_readActs rmX12_readActs [.int (nI b), .int (nI n)] τ (some (.int (raR (rdA (fun j => τ 30 (b + j)) n 5 0 [])))) (raP τ (rdA (fun j => τ 30 (b + j)) n 5 0 [])) := by
  intro M0 hW0
  refine am_of rfl rfl (ls := [some (.ref 25), some (.int (nI b)), some (.int (nI n)), none, none, none]) rfl ?_
  suffices HH : ∀ M, RO τ M0 M → AW mX12_readActs rmX12_readActs (fun r' M' => r' = (some (.int (raR (rdA (fun j => τ 30 (b + j)) n 5 0 [])))) ∧ ∃ σ, RO σ M0 M' ∧ (raP τ (rdA (fun j => τ 30 (b + j)) n 5 0 [])) σ) 0 [some (.ref 25), some (.int (nI b)), some (.int (nI n)), none, none, none] [] M 0 0 from HH M0 ⟨hW0, Off.rf M0⟩
  intro M hW
  refine aw_aload0 0 dX12_readActs_0 ?_
  refine aw_ic0 1 dX12_readActs_1 ?_
  refine rw_pi 2 6 dX12_readActs_2 ckF_RX12_166_12 ckP12_6 rfl (by decide) rfl hW (fun M hW => ?_)
  refine aw_aload0 5 dX12_readActs_5 ?_
  refine aw_ic0 6 dX12_readActs_6 ?_
  refine rw_pi 7 8 dX12_readActs_7 ckF_RX12_159_12 ckP12_8 rfl (by decide) rfl hW (fun M hW => ?_)
  refine aw_ic1 10 dX12_readActs_10 ?_
  refine aw_istore3 11 dX12_readActs_11 rfl ?_
  have LP12 : ∀ (dd : Nat) (m i : Nat) (l : List (Int32 × Nat)) (l4 l5 : Option Value) (ρ : TT) (M : Mem), 5 - m = dd → (m < 5) → (i ≤ n) → (Obs ρ τ) → (ρ 6 0 = nI m) → (ρ 8 0 = nI i) → (rdA (fun j => τ 30 (b + j)) n 5 0 [] = rdA (fun j => τ 30 (b + j)) n (5 - m) i l) → (l.length = m) → (∀ j, j < m → ∃ a, l[j]? = some a ∧ actR (ρ 7) (5 * j) a) → (RO ρ M0 M) → AW mX12_readActs rmX12_readActs (fun r' M' => r' = (some (.int (raR (rdA (fun j => τ 30 (b + j)) n 5 0 [])))) ∧ ∃ σ, RO σ M0 M' ∧ (raP τ (rdA (fun j => τ 30 (b + j)) n 5 0 [])) σ) 12 [some (.ref 25), some (.int (nI b)), some (.int (nI n)), some (.int 1), l4, l5] [] M 0 0 := by
    intro dd
    induction dd using Nat.strongRecOn with
    | _ dd ih12 =>
      intro m i l l4 l5 ρ M hdd hm hi ho hr6 hr8 heq hl hact hW
      have hS := heq.trans ((congrArg (fun f => rdA (fun j => τ 30 (b + j)) n f i l) (show 5 - m = (4 - m) + 1 by omega)).trans rdA_s)
      refine aw_iload3 12 dX12_readActs_12 ?_
      refine aw_if_eqN 13 217 (1) dX12_readActs_13 (by decide) rfl (by decide) (fun h => absurd h (by decide)) (fun _ => ?_)
      have KN : isKd (cdA (fun j => τ 30 (b + j)) n i) → AW mX12_readActs rmX12_readActs (fun r' M' => r' = (some (.int (raR (rdA (fun j => τ 30 (b + j)) n 5 0 [])))) ∧ ∃ σ, RO σ M0 M' ∧ (raP τ (rdA (fun j => τ 30 (b + j)) n 5 0 [])) σ) 83 [some (.ref 25), some (.int (nI b)), some (.int (nI n)), some (.int 1), some (.int (cdA (fun j => τ 30 (b + j)) n i)), l5] [] M 0 0 := by
        intro hk
        have hin := isKd_lt hk
        refine aw_ic1 83 dX12_readActs_83 ?_
        refine aw_goto 84 88 dX12_readActs_84 (by decide) ?_
        refine aw_istore5 88 dX12_readActs_88 rfl ?_
        refine aw_iload5 90 dX12_readActs_90 ?_
        refine aw_if_neN 92 100 (1) dX12_readActs_92 (by decide) rfl (by decide) (fun _ => ?_) (fun h => absurd h (by decide))
        refine aw_aload0 100 dX12_readActs_100 ?_
        refine aw_dup 101 dX12_readActs_101 rfl ?_
        refine rw_gi 102 8 dX12_readActs_102 ckF_RX12_159_12 (by decide) rfl hW ?_
        refine aw_topi (w := nI (i)) (hr8) ?_
        refine aw_ic1 105 dX12_readActs_105 ?_
        refine aw_iaddN 106 (i) (1) dX12_readActs_106 rfl rfl ?_
        refine rw_pi 107 8 dX12_readActs_107 ckF_RX12_159_12 ckP12_8 rfl (by decide) rfl hW (fun M hW => ?_)
        refine aw_aload0 110 dX12_readActs_110 ?_
        refine rw_ga 111 7 dX12_readActs_111 ckF_RX12_22_12 (by decide) (by decide) hW ?_
        refine aw_ic5 114 dX12_readActs_114 ?_
        refine aw_aload0 115 dX12_readActs_115 ?_
        refine rw_gi 116 6 dX12_readActs_116 ckF_RX12_166_12 (by decide) rfl hW ?_
        refine aw_topi (w := nI (m)) ((by rw [tu_ne (by decide)]; exact hr6)) ?_
        refine aw_imulN 119 (5) (m) dX12_readActs_119 rfl rfl ?_
        refine aw_iload4 120 dX12_readActs_120 ?_
        refine rw_st 122 7 (5 * m) dX12_readActs_122 hW rfl (show 5 * m < 25 by omega) (fun M hW => ?_)
        refine aw_aload0 123 dX12_readActs_123 ?_
        refine aw_iload4 124 dX12_readActs_124 ?_
        refine aw_iload1 126 dX12_readActs_126 ?_
        refine aw_iload2 127 dX12_readActs_127 ?_
        have cc : RP mX12_readsNumbers rmX12_readsNumbers [.int (cdA (fun j => τ 30 (b + j)) n i), .int (nI b), .int (nI n)] (tu (tu ρ 8 0 (nI (i + 1))) 7 (5 * m) (cdA (fun j => τ 30 (b + j)) n i)) (some (.int (bi ((rdN (fun j => τ 30 (b + j)) n (cdA (fun j => τ 30 (b + j)) n i) (i + 1)).1 = true)))) (rnP (tu (tu ρ 8 0 (nI (i + 1))) 7 (5 * m) (cdA (fun j => τ 30 (b + j)) n i)) m (cdA (fun j => τ 30 (b + j)) n i) (rdN (fun j => τ 30 (b + j)) n (cdA (fun j => τ 30 (b + j)) n i) (i + 1))) := by
          have := c_X12_readsNumbers (τ := (tu (tu ρ 8 0 (nI (i + 1))) 7 (5 * m) (cdA (fun j => τ 30 (b + j)) n i))) (b := b) (n := n) (m := m) (i := i + 1) hk hbn hm (by rw [tu_ne (by decide), tu_ne (by decide)]; exact hr6) (by rw [tu_ne (by decide), tu_at]) (by omega) tu_at
          rwa [show (fun j => (tu (tu ρ 8 0 (nI (i + 1))) 7 (5 * m) (cdA (fun j => τ 30 (b + j)) n i)) 30 (b + j)) = (fun j => τ 30 (b + j)) by rw [tu_ne (by decide), tu_ne (by decide), ho 30 (by decide)]] at this
        refine rp_call1 128 dX12_readActs_128 cc ckV_RX12_174 cd_X12_readsNumbers rfl hW rfl (Nat.le_of_ble_eq_true rfl) ⟨⟨by decide, by decide⟩, by decide, by decide⟩ rfl (fun σ M hpσ hW => ?_)
        have hle := rdN_le (t := (fun j => τ 30 (b + j))) (n := n) (c := cdA (fun j => τ 30 (b + j)) n i) (i := i + 1) (by omega)
        refine aw_ifne_b 131 139 dX12_readActs_131 (by decide) (fun h131 => ?_) (fun h131 => ?_)
        · refine aw_aload0 139 dX12_readActs_139 ?_
          refine aw_dup 140 dX12_readActs_140 rfl ?_
          refine rw_gi 141 6 dX12_readActs_141 ckF_RX12_166_12 (by decide) rfl hW ?_
          refine aw_topi (w := nI (m)) (hpσ.2.1) ?_
          refine aw_ic1 144 dX12_readActs_144 ?_
          refine aw_iaddN 145 (m) (1) dX12_readActs_145 rfl rfl ?_
          refine rw_pi 146 6 dX12_readActs_146 ckF_RX12_166_12 ckP12_6 rfl (by decide) rfl hW (fun M hW => ?_)
          refine aw_aload0 149 dX12_readActs_149 ?_
          refine rw_gi 150 8 dX12_readActs_150 ckF_RX12_159_12 (by decide) rfl hW ?_
          refine aw_topi (w := nI ((rdN (fun j => τ 30 (b + j)) n (cdA (fun j => τ 30 (b + j)) n i) (i + 1)).2.1)) ((by rw [tu_ne (by decide)]; exact hpσ.2.2.1)) ?_
          refine aw_iload2 153 dX12_readActs_153 ?_
          refine aw_icmp_geN 154 161 ((rdN (fun j => τ 30 (b + j)) n (cdA (fun j => τ 30 (b + j)) n i) (i + 1)).2.1) (n) dX12_readActs_154 (by decide) rfl rfl (by omega) (by omega) (fun h154 => ?_) (fun h154 => ?_)
          · refine aw_ic0 161 dX12_readActs_161 ?_
            refine aw_istore3 162 dX12_readActs_162 rfl ?_
            refine aw_iload3 163 dX12_readActs_163 ?_
            refine aw_if_eqN 164 196 (0) dX12_readActs_164 (by decide) rfl (by decide) (fun _ => ?_) (fun h => absurd h (by decide))
            refine aw_aload0 196 dX12_readActs_196 ?_
            refine aw_dup 197 dX12_readActs_197 rfl ?_
            refine rw_gi 198 8 dX12_readActs_198 ckF_RX12_159_12 (by decide) rfl hW ?_
            refine aw_topi (w := nI ((rdN (fun j => τ 30 (b + j)) n (cdA (fun j => τ 30 (b + j)) n i) (i + 1)).2.1)) ((by rw [tu_ne (by decide)]; exact hpσ.2.2.1)) ?_
            refine aw_iload3 201 dX12_readActs_201 ?_
            refine aw_if_eqN 202 209 (0) dX12_readActs_202 (by decide) rfl (by decide) (fun _ => ?_) (fun h => absurd h (by decide))
            refine aw_ic0 209 dX12_readActs_209 ?_
            refine aw_iaddN 210 ((rdN (fun j => τ 30 (b + j)) n (cdA (fun j => τ 30 (b + j)) n i) (i + 1)).2.1) (0) dX12_readActs_210 rfl rfl ?_
            refine rw_pi 211 8 dX12_readActs_211 ckF_RX12_159_12 ckP12_8 rfl (by decide) rfl hW (fun M hW => ?_)
            refine aw_goto 214 12 dX12_readActs_214 (by decide) ?_
            refine aw_iload3 12 dX12_readActs_12 ?_
            refine aw_if_eqN 13 217 (0) dX12_readActs_13 (by decide) rfl (by decide) (fun _ => ?_) (fun h => absurd h (by decide))
            refine aw_icm1 217 dX12_readActs_217 ?_
            refine aw_iret 218 dX12_readActs_218 rfl (Nat.zero_le _) (Nat.zero_le _) ?_
            rw [hS, if_neg (nn hk), if_neg (show ¬ (rdN (fun j => τ 30 (b + j)) n (cdA (fun j => τ 30 (b + j)) n i) (i + 1)).1 = false by rw [h131]; decide), if_pos h154]
            refine ⟨rfl, _, hW, (obs_tu (obs_tu (hpσ.1.trans (obs_tu (obs_tu ho (by decide)) (by decide))) (by decide)) (by decide)), fun l' q => ?_⟩
            have q2 := Sum.inr.inj q
            subst q2
            refine ⟨by rw [tu_ne (by decide), tu_at, List.length_append, hl]; rfl, by rw [List.length_append, hl]; exact hm, ?_⟩
            rw [List.length_append, hl]
            exact (act_ext hl hact (fun j hj => by rw [tu_ne (by decide), tu_ne (by decide), hpσ.2.2.2.1 j (by omega), tu_nk (by omega), tu_ne (by decide)]) (by rw [tu_ne (by decide), tu_ne (by decide)]; exact hpσ.2.2.2.2 h131))
          · refine aw_ic1 157 dX12_readActs_157 ?_
            refine aw_goto 158 162 dX12_readActs_158 (by decide) ?_
            refine aw_istore3 162 dX12_readActs_162 rfl ?_
            refine aw_iload3 163 dX12_readActs_163 ?_
            refine aw_if_eqN 164 196 (1) dX12_readActs_164 (by decide) rfl (by decide) (fun h => absurd h (by decide)) (fun _ => ?_)
            refine aw_aload0 167 dX12_readActs_167 ?_
            refine rw_ga 168 30 dX12_readActs_168 ckF_RX12_73_12 (by decide) (by decide) hW ?_
            refine aw_iload1 171 dX12_readActs_171 ?_
            refine aw_aload0 172 dX12_readActs_172 ?_
            refine rw_gi 173 8 dX12_readActs_173 ckF_RX12_159_12 (by decide) rfl hW ?_
            refine aw_topi (w := nI ((rdN (fun j => τ 30 (b + j)) n (cdA (fun j => τ 30 (b + j)) n i) (i + 1)).2.1)) ((by rw [tu_ne (by decide)]; exact hpσ.2.2.1)) ?_
            refine aw_iaddN 176 (b) ((rdN (fun j => τ 30 (b + j)) n (cdA (fun j => τ 30 (b + j)) n i) (i + 1)).2.1) dX12_readActs_176 rfl rfl ?_
            have hT59 : (tu σ 6 0 (nI (m + 1))) 30 (b + (rdN (fun j => τ 30 (b + j)) n (cdA (fun j => τ 30 (b + j)) n i) (i + 1)).2.1) = (fun j => τ 30 (b + j)) (rdN (fun j => τ 30 (b + j)) n (cdA (fun j => τ 30 (b + j)) n i) (i + 1)).2.1 := by rw [tu_ne (by decide), hpσ.1 30 (by decide), tu_ne (by decide), tu_ne (by decide), ho 30 (by decide)]
            refine rw_ld 177 30 (b + ((rdN (fun j => τ 30 (b + j)) n (cdA (fun j => τ 30 (b + j)) n i) (i + 1)).2.1)) dX12_readActs_177 hW rfl (show b + (rdN (fun j => τ 30 (b + j)) n (cdA (fun j => τ 30 (b + j)) n i) (i + 1)).2.1 < 240 by omega) ?_
            refine aw_bipush 178 59 dX12_readActs_178 (by decide) ?_
            refine aw_icmp_ne 180 191 dX12_readActs_180 (by decide) (fun h180 => ?_) (fun h180 => ?_)
            · refine aw_aload0 191 dX12_readActs_191 ?_
              refine rw_gi 192 8 dX12_readActs_192 ckF_RX12_159_12 (by decide) rfl hW ?_
              refine aw_topi (w := nI ((rdN (fun j => τ 30 (b + j)) n (cdA (fun j => τ 30 (b + j)) n i) (i + 1)).2.1)) ((by rw [tu_ne (by decide)]; exact hpσ.2.2.1)) ?_
              refine aw_iret 195 dX12_readActs_195 rfl (Nat.zero_le _) (Nat.zero_le _) ?_
              rw [hS, if_neg (nn hk), if_neg (show ¬ (rdN (fun j => τ 30 (b + j)) n (cdA (fun j => τ 30 (b + j)) n i) (i + 1)).1 = false by rw [h131]; decide), if_neg (Nat.not_le.mpr h154), if_pos (show (¬ (fun j => τ 30 (b + j)) (rdN (fun j => τ 30 (b + j)) n (cdA (fun j => τ 30 (b + j)) n i) (i + 1)).2.1 = 59 ∨ 4 - m = 0) by first | exact Or.inl (fun q => h180 (hT59.trans q)) | exact Or.inr (by omega))]
              exact ⟨rfl, _, hW, (obs_tu (hpσ.1.trans (obs_tu (obs_tu ho (by decide)) (by decide))) (by decide)), fun _ q => by cases q⟩
            · refine aw_aload0 183 dX12_readActs_183 ?_
              refine rw_gi 184 6 dX12_readActs_184 ckF_RX12_166_12 (by decide) rfl hW ?_
              refine aw_topi (w := nI (m + 1)) (tu_at) ?_
              refine aw_ic5 187 dX12_readActs_187 ?_
              refine aw_icmp_neN 188 196 (m + 1) (5) dX12_readActs_188 (by decide) rfl rfl (by omega) (by omega) (fun h188 => ?_) (fun h188 => ?_)
              · refine aw_aload0 196 dX12_readActs_196 ?_
                refine aw_dup 197 dX12_readActs_197 rfl ?_
                refine rw_gi 198 8 dX12_readActs_198 ckF_RX12_159_12 (by decide) rfl hW ?_
                refine aw_topi (w := nI ((rdN (fun j => τ 30 (b + j)) n (cdA (fun j => τ 30 (b + j)) n i) (i + 1)).2.1)) ((by rw [tu_ne (by decide)]; exact hpσ.2.2.1)) ?_
                refine aw_iload3 201 dX12_readActs_201 ?_
                refine aw_if_eqN 202 209 (1) dX12_readActs_202 (by decide) rfl (by decide) (fun h => absurd h (by decide)) (fun _ => ?_)
                refine aw_ic1 205 dX12_readActs_205 ?_
                refine aw_goto 206 210 dX12_readActs_206 (by decide) ?_
                refine aw_iaddN 210 ((rdN (fun j => τ 30 (b + j)) n (cdA (fun j => τ 30 (b + j)) n i) (i + 1)).2.1) (1) dX12_readActs_210 rfl rfl ?_
                refine rw_pi 211 8 dX12_readActs_211 ckF_RX12_159_12 ckP12_8 rfl (by decide) rfl hW (fun M hW => ?_)
                refine aw_goto 214 12 dX12_readActs_214 (by decide) ?_
                exact ih12 _ (by omega) (m + 1) ((rdN (fun j => τ 30 (b + j)) n (cdA (fun j => τ 30 (b + j)) n i) (i + 1)).2.1 + 1) (l ++ [(cdA (fun j => τ 30 (b + j)) n i, (rdN (fun j => τ 30 (b + j)) n (cdA (fun j => τ 30 (b + j)) n i) (i + 1)).2.2)]) _ _ _ M rfl (by omega) (by omega) (obs_tu (obs_tu (hpσ.1.trans (obs_tu (obs_tu ho (by decide)) (by decide))) (by decide)) (by decide)) (by rw [tu_ne (by decide), tu_at]) (by rw [tu_at]) (by rw [hS, if_neg (nn hk), if_neg (show ¬ (rdN (fun j => τ 30 (b + j)) n (cdA (fun j => τ 30 (b + j)) n i) (i + 1)).1 = false by rw [h131]; decide), if_neg (Nat.not_le.mpr h154), if_neg (show ¬ (¬ (fun j => τ 30 (b + j)) (rdN (fun j => τ 30 (b + j)) n (cdA (fun j => τ 30 (b + j)) n i) (i + 1)).2.1 = 59 ∨ 4 - m = 0) from fun q => q.elim (fun q => q (hT59.symm.trans h180)) (fun q => by omega)), show 4 - m = 5 - (m + 1) by omega]) (by rw [List.length_append, hl]; rfl) (act_ext hl hact (fun j hj => by rw [tu_ne (by decide), tu_ne (by decide), hpσ.2.2.2.1 j (by omega), tu_nk (by omega), tu_ne (by decide)]) (by rw [tu_ne (by decide), tu_ne (by decide)]; exact hpσ.2.2.2.2 h131)) hW
              · refine aw_aload0 191 dX12_readActs_191 ?_
                refine rw_gi 192 8 dX12_readActs_192 ckF_RX12_159_12 (by decide) rfl hW ?_
                refine aw_topi (w := nI ((rdN (fun j => τ 30 (b + j)) n (cdA (fun j => τ 30 (b + j)) n i) (i + 1)).2.1)) ((by rw [tu_ne (by decide)]; exact hpσ.2.2.1)) ?_
                refine aw_iret 195 dX12_readActs_195 rfl (Nat.zero_le _) (Nat.zero_le _) ?_
                rw [hS, if_neg (nn hk), if_neg (show ¬ (rdN (fun j => τ 30 (b + j)) n (cdA (fun j => τ 30 (b + j)) n i) (i + 1)).1 = false by rw [h131]; decide), if_neg (Nat.not_le.mpr h154), if_pos (show (¬ (fun j => τ 30 (b + j)) (rdN (fun j => τ 30 (b + j)) n (cdA (fun j => τ 30 (b + j)) n i) (i + 1)).2.1 = 59 ∨ 4 - m = 0) by first | exact Or.inl (fun q => h180 (hT59.trans q)) | exact Or.inr (by omega))]
                exact ⟨rfl, _, hW, (obs_tu (hpσ.1.trans (obs_tu (obs_tu ho (by decide)) (by decide))) (by decide)), fun _ q => by cases q⟩
        · refine aw_aload0 134 dX12_readActs_134 ?_
          refine rw_gi 135 8 dX12_readActs_135 ckF_RX12_159_12 (by decide) rfl hW ?_
          refine aw_topi (w := nI ((rdN (fun j => τ 30 (b + j)) n (cdA (fun j => τ 30 (b + j)) n i) (i + 1)).2.1)) (hpσ.2.2.1) ?_
          refine aw_iret 138 dX12_readActs_138 rfl (Nat.zero_le _) (Nat.zero_le _) ?_
          rw [hS, if_neg (nn hk), if_pos (show (rdN (fun j => τ 30 (b + j)) n (cdA (fun j => τ 30 (b + j)) n i) (i + 1)).1 = false by cases hb : (rdN (fun j => τ 30 (b + j)) n (cdA (fun j => τ 30 (b + j)) n i) (i + 1)).1 with | true => exact absurd hb h131 | false => rfl)]
          exact ⟨rfl, _, hW, (hpσ.1.trans (obs_tu (obs_tu ho (by decide)) (by decide))), fun _ q => by cases q⟩
      have CO : AW mX12_readActs rmX12_readActs (fun r' M' => r' = (some (.int (raR (rdA (fun j => τ 30 (b + j)) n 5 0 [])))) ∧ ∃ σ, RO σ M0 M' ∧ (raP τ (rdA (fun j => τ 30 (b + j)) n 5 0 [])) σ) 39 [some (.ref 25), some (.int (nI b)), some (.int (nI n)), some (.int 1), l4, l5] [.int (cdA (fun j => τ 30 (b + j)) n i)] M 0 0 := by
        refine aw_istore4 39 dX12_readActs_39 rfl ?_
        refine aw_iload4 41 dX12_readActs_41 ?_
        refine aw_bipush 43 99 dX12_readActs_43 (by decide) ?_
        refine aw_icmp_eq 45 83 dX12_readActs_45 (by decide) (fun h45 => ?_) (fun h45 => ?_)
        · exact KN (by first | exact Or.inl h45 | exact Or.inr (Or.inl h52) | exact Or.inr (Or.inr (Or.inl h59)) | exact Or.inr (Or.inr (Or.inr (Or.inl h66))) | exact Or.inr (Or.inr (Or.inr (Or.inr (Or.inl h73)))) | exact Or.inr (Or.inr (Or.inr (Or.inr (Or.inr (Classical.not_not.mp h80))))) | exact Or.inr (Or.inr (Or.inr (Or.inr (Or.inr h80)))))
        · refine aw_iload4 48 dX12_readActs_48 ?_
          refine aw_bipush 50 98 dX12_readActs_50 (by decide) ?_
          refine aw_icmp_eq 52 83 dX12_readActs_52 (by decide) (fun h52 => ?_) (fun h52 => ?_)
          · exact KN (by first | exact Or.inl h45 | exact Or.inr (Or.inl h52) | exact Or.inr (Or.inr (Or.inl h59)) | exact Or.inr (Or.inr (Or.inr (Or.inl h66))) | exact Or.inr (Or.inr (Or.inr (Or.inr (Or.inl h73)))) | exact Or.inr (Or.inr (Or.inr (Or.inr (Or.inr (Classical.not_not.mp h80))))) | exact Or.inr (Or.inr (Or.inr (Or.inr (Or.inr h80)))))
          · refine aw_iload4 55 dX12_readActs_55 ?_
            refine aw_bipush 57 116 dX12_readActs_57 (by decide) ?_
            refine aw_icmp_eq 59 83 dX12_readActs_59 (by decide) (fun h59 => ?_) (fun h59 => ?_)
            · exact KN (by first | exact Or.inl h45 | exact Or.inr (Or.inl h52) | exact Or.inr (Or.inr (Or.inl h59)) | exact Or.inr (Or.inr (Or.inr (Or.inl h66))) | exact Or.inr (Or.inr (Or.inr (Or.inr (Or.inl h73)))) | exact Or.inr (Or.inr (Or.inr (Or.inr (Or.inr (Classical.not_not.mp h80))))) | exact Or.inr (Or.inr (Or.inr (Or.inr (Or.inr h80)))))
            · refine aw_iload4 62 dX12_readActs_62 ?_
              refine aw_bipush 64 108 dX12_readActs_64 (by decide) ?_
              refine aw_icmp_eq 66 83 dX12_readActs_66 (by decide) (fun h66 => ?_) (fun h66 => ?_)
              · exact KN (by first | exact Or.inl h45 | exact Or.inr (Or.inl h52) | exact Or.inr (Or.inr (Or.inl h59)) | exact Or.inr (Or.inr (Or.inr (Or.inl h66))) | exact Or.inr (Or.inr (Or.inr (Or.inr (Or.inl h73)))) | exact Or.inr (Or.inr (Or.inr (Or.inr (Or.inr (Classical.not_not.mp h80))))) | exact Or.inr (Or.inr (Or.inr (Or.inr (Or.inr h80)))))
              · refine aw_iload4 69 dX12_readActs_69 ?_
                refine aw_bipush 71 109 dX12_readActs_71 (by decide) ?_
                refine aw_icmp_eq 73 83 dX12_readActs_73 (by decide) (fun h73 => ?_) (fun h73 => ?_)
                · exact KN (by first | exact Or.inl h45 | exact Or.inr (Or.inl h52) | exact Or.inr (Or.inr (Or.inl h59)) | exact Or.inr (Or.inr (Or.inr (Or.inl h66))) | exact Or.inr (Or.inr (Or.inr (Or.inr (Or.inl h73)))) | exact Or.inr (Or.inr (Or.inr (Or.inr (Or.inr (Classical.not_not.mp h80))))) | exact Or.inr (Or.inr (Or.inr (Or.inr (Or.inr h80)))))
                · refine aw_iload4 76 dX12_readActs_76 ?_
                  refine aw_bipush 78 113 dX12_readActs_78 (by decide) ?_
                  refine aw_icmp_ne 80 87 dX12_readActs_80 (by decide) (fun h80 => ?_) (fun h80 => ?_)
                  · refine aw_ic0 87 dX12_readActs_87 ?_
                    refine aw_istore5 88 dX12_readActs_88 rfl ?_
                    refine aw_iload5 90 dX12_readActs_90 ?_
                    refine aw_if_neN 92 100 (0) dX12_readActs_92 (by decide) rfl (by decide) (fun h => absurd h (by decide)) (fun _ => ?_)
                    refine aw_aload0 95 dX12_readActs_95 ?_
                    refine rw_gi 96 8 dX12_readActs_96 ckF_RX12_159_12 (by decide) rfl hW ?_
                    refine aw_topi (w := nI (i)) (hr8) ?_
                    refine aw_iret 99 dX12_readActs_99 rfl (Nat.zero_le _) (Nat.zero_le _) ?_
                    rw [hS, if_pos (show ¬ isKd (cdA (fun j => τ 30 (b + j)) n i) from fun q => by rcases q with q | q | q | q | q | q <;> first | exact h45 q | exact h52 q | exact h59 q | exact h66 q | exact h73 q | exact h80 q)]
                    exact ⟨rfl, _, hW, ho, fun _ q => by cases q⟩
                  · exact KN (by first | exact Or.inl h45 | exact Or.inr (Or.inl h52) | exact Or.inr (Or.inr (Or.inl h59)) | exact Or.inr (Or.inr (Or.inr (Or.inl h66))) | exact Or.inr (Or.inr (Or.inr (Or.inr (Or.inl h73)))) | exact Or.inr (Or.inr (Or.inr (Or.inr (Or.inr (Classical.not_not.mp h80))))) | exact Or.inr (Or.inr (Or.inr (Or.inr (Or.inr h80)))))
      refine aw_aload0 16 dX12_readActs_16 ?_
      refine rw_gi 17 8 dX12_readActs_17 ckF_RX12_159_12 (by decide) rfl hW ?_
      refine aw_topi (w := nI (i)) (hr8) ?_
      refine aw_iload2 20 dX12_readActs_20 ?_
      refine aw_icmp_geN 21 38 (i) (n) dX12_readActs_21 (by decide) rfl rfl (by omega) (by omega) (fun h21 => ?_) (fun h21 => ?_)
      · refine aw_ic0 38 dX12_readActs_38 ?_
        refine aw_topi (w := cdA (fun j => τ 30 (b + j)) n i) (by first | (show ρ 30 (b + i) = _; unfold cdA; rw [if_pos h21, ho 30 (by decide)]; done) | (show (0 : Int32) = _; unfold cdA; rw [if_neg (by omega)]; done)) ?_
        exact CO
      · refine aw_aload0 24 dX12_readActs_24 ?_
        refine rw_ga 25 30 dX12_readActs_25 ckF_RX12_73_12 (by decide) (by decide) hW ?_
        refine aw_iload1 28 dX12_readActs_28 ?_
        refine aw_aload0 29 dX12_readActs_29 ?_
        refine rw_gi 30 8 dX12_readActs_30 ckF_RX12_159_12 (by decide) rfl hW ?_
        refine aw_topi (w := nI (i)) (hr8) ?_
        refine aw_iaddN 33 (b) (i) dX12_readActs_33 rfl rfl ?_
        refine rw_ld 34 30 (b + i) dX12_readActs_34 hW rfl (show b + i < 240 by omega) ?_
        refine aw_goto 35 39 dX12_readActs_35 (by decide) ?_
        refine aw_topi (w := cdA (fun j => τ 30 (b + j)) n i) (by first | (show ρ 30 (b + i) = _; unfold cdA; rw [if_pos h21, ho 30 (by decide)]; done) | (show (0 : Int32) = _; unfold cdA; rw [if_neg (by omega)]; done)) ?_
        exact CO
  exact LP12 _ 0 0 [] none none _ M rfl (by omega) (by omega) (obs_tu (obs_tu (Obs.rf _) (by decide)) (by decide)) (by rw [tu_ne (by decide), tu_at]; rfl) (by rw [tu_at]; rfl) rfl rfl (fun j hj => absurd hj (by omega)) hW

