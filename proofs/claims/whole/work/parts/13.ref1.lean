/-! the reference: static methods and small readers (rows laid by gen/ref1.py) -/
theorem lt0 : (0 : Int32) = nI 0 := rfl
theorem lt1 : (1 : Int32) = nI 1 := rfl
theorem lt2 : (2 : Int32) = nI 2 := rfl
theorem lt3 : (3 : Int32) = nI 3 := rfl
theorem lt4 : (4 : Int32) = nI 4 := rfl
theorem lt5 : (5 : Int32) = nI 5 := rfl
theorem lt6 : (6 : Int32) = nI 6 := rfl
theorem lt9 : (9 : Int32) = nI 9 := rfl
theorem lt12 : (12 : Int32) = nI 12 := rfl
theorem lt15 : (15 : Int32) = nI 15 := rfl
theorem lt16 : (16 : Int32) = nI 16 := rfl
theorem lt25 : (25 : Int32) = nI 25 := rfl
theorem lt32 : (32 : Int32) = nI 32 := rfl
theorem lt60 : (60 : Int32) = nI 60 := rfl
section
variable {Y : YY} {R : Room} {Q : Option Value → Mem → Prop} {ls : List (Option Value)} {st : List Value} {M M0 : Mem} {cs ss : Nat} {τ : TT}
theorem rw_call1 (pc : Nat) {Z : YY} {rm : Room} {as st0 : List Value} {r : Value} {τ' : TT} {idx : Nat} (hd : decode Y.2.1 pc = .ok (.invokevirtual idx, 3)) (hM : RD Z rm as τ (some r) τ') (ck : ckV Y.1.cls idx Z as.length = true) (hcd : inTbl Z) (hcl : Z.1.cls = RX12) (hW : RO τ M0 M) (hst : st0 = as.reverse ++ .ref 25 :: st) (hw : (st.map fun v => v.category).sum ≤ 8) (hR1 : rmOK R rm Z cs ss) (hz : (rm.cells, rm.slots) = (0, 0))
    (kk : ∀ M, RO τ' M0 M → AW Y R Q (pc + 3) ls (r :: st) M cs ss) : AW Y R Q pc ls st0 M cs ss := by
  refine rw_call pc hd ck hcd hcl hM hW hst hw hR1 (fun M hW => ?_)
  rw [(Prod.mk.inj hz).1, (Prod.mk.inj hz).2]
  exact kk M hW
theorem rw_call0 (pc : Nat) {Z : YY} {rm : Room} {as st0 : List Value} {τ' : TT} {idx : Nat} (hd : decode Y.2.1 pc = .ok (.invokevirtual idx, 3)) (hM : RD Z rm as τ none τ') (ck : ckV Y.1.cls idx Z as.length = true) (hcd : inTbl Z) (hcl : Z.1.cls = RX12) (hW : RO τ M0 M) (hst : st0 = as.reverse ++ .ref 25 :: st) (hw : (st.map fun v => v.category).sum ≤ 8) (hR1 : rmOK R rm Z cs ss) (hz : (rm.cells, rm.slots) = (0, 0))
    (kk : ∀ M, RO τ' M0 M → AW Y R Q (pc + 3) ls st M cs ss) : AW Y R Q pc ls st0 M cs ss := by
  refine rw_call pc hd ck hcd hcl hM hW hst hw hR1 (fun M hW => ?_)
  rw [(Prod.mk.inj hz).1, (Prod.mk.inj hz).2]
  exact kk M hW
theorem sd_call1 (pc : Nat) {Z : YY} {rm : Room} {as st0 : List Value} {r : Value} {idx : Nat} (hd : decode Y.2.1 pc = .ok (.invokestatic idx, 3)) (hM : SD Z rm as (some r)) (ck : ckS Y.1.cls idx Z as.length = true) (hcd : inTbl Z) (hst : st0 = as.reverse ++ st) (hw : (st.map fun v => v.category).sum ≤ 8) (hR1 : rmOK R rm Z cs ss) (hz : (rm.cells, rm.slots) = (0, 0))
    (kk : AW Y R Q (pc + 3) ls (r :: st) M cs ss) : AW Y R Q pc ls st0 M cs ss := by
  refine sd_call pc hd ck hcd hM hst hw hR1 ?_
  rw [(Prod.mk.inj hz).1, (Prod.mk.inj hz).2]
  exact kk
end
theorem nI_sub' {a b : Nat} (h : b ≤ a) : nI a - nI b = nI (a - b) := pk_sub h
section
variable {Y : YY} {R : Room} {Q : Option Value → Mem → Prop} {ls : List (Option Value)} {st : List Value} {M M0 : Mem} {cs ss : Nat} {τ : TT}
theorem aw_topi {pc : Nat} {v w : Int32} (h : v = w) (kk : AW Y R Q pc ls (.int w :: st) M cs ss) : AW Y R Q pc ls (.int v :: st) M cs ss := h ▸ kk
theorem aw_iaddN (pc a b : Nat) {x1 y1 : Int32} (hd : decode Y.2.1 pc = .ok (.iadd, 1)) (hx : x1 = nI a) (hy : y1 = nI b) (kk : AW Y R Q (pc + 1) ls (.int (nI (a + b)) :: st) M cs ss) : AW Y R Q pc ls (.int y1 :: .int x1 :: st) M cs ss := by
  subst hx hy
  refine aw_iadd pc hd ?_
  rw [nI_add]
  exact kk
theorem aw_imulN (pc a b : Nat) {x1 y1 : Int32} (hd : decode Y.2.1 pc = .ok (.imul, 1)) (hx : x1 = nI a) (hy : y1 = nI b) (kk : AW Y R Q (pc + 1) ls (.int (nI (a * b)) :: st) M cs ss) : AW Y R Q pc ls (.int y1 :: .int x1 :: st) M cs ss := by
  subst hx hy
  refine aw_imul pc hd ?_
  rw [pk_mul]
  exact kk
theorem aw_isubN (pc a b : Nat) {x1 y1 : Int32} (hd : decode Y.2.1 pc = .ok (.isub, 1)) (hx : x1 = nI a) (hy : y1 = nI b) (h : b ≤ a) (kk : AW Y R Q (pc + 1) ls (.int (nI (a - b)) :: st) M cs ss) : AW Y R Q pc ls (.int y1 :: .int x1 :: st) M cs ss := by
  subst hx hy
  refine aw_isub pc hd ?_
  rw [pk_sub h]
  exact kk
theorem aw_idivN (pc a b : Nat) {x1 y1 : Int32} (hd : decode Y.2.1 pc = .ok (.idiv, 1)) (hx : x1 = nI a) (hy : y1 = nI b) (ha : a < 2 ^ 31) (h0 : 0 < b) (hb : b < 2 ^ 31) (kk : AW Y R Q (pc + 1) ls (.int (nI (a / b)) :: st) M cs ss) : AW Y R Q pc ls (.int y1 :: .int x1 :: st) M cs ss := by
  subst hx hy
  refine aw_idiv pc hd (nI_ne0 h0 hb) ?_
  rw [pk_div ha h0 hb]
  exact kk
theorem aw_iremN (pc a b : Nat) {x1 y1 : Int32} (hd : decode Y.2.1 pc = .ok (.irem, 1)) (hx : x1 = nI a) (hy : y1 = nI b) (ha : a < 2 ^ 31) (h0 : 0 < b) (hb : b < 2 ^ 31) (kk : AW Y R Q (pc + 1) ls (.int (nI (a % b)) :: st) M cs ss) : AW Y R Q pc ls (.int y1 :: .int x1 :: st) M cs ss := by
  subst hx hy
  refine aw_irem pc hd (nI_ne0 h0 hb) ?_
  rw [pk_rem ha h0 hb]
  exact kk
theorem aw_icmp_eqN (pc tgt a b : Nat) {x1 y1 : Int32} {off : Int} (hd : decode Y.2.1 pc = .ok (.if_icmp .eq off, 3)) (ht : (pc : Int) + off = (tgt : Int)) (hx : x1 = nI a) (hy : y1 = nI b) (ha : a < 2 ^ 31) (hb : b < 2 ^ 31) (kt : a = b → AW Y R Q tgt ls st M cs ss) (kf : ¬ a = b → AW Y R Q (pc + 3) ls st M cs ss) : AW Y R Q pc ls (.int y1 :: .int x1 :: st) M cs ss := by
  subst hx hy
  exact aw_icmp_eq pc tgt hd ht (fun h => kt ((nI_eq ha hb).mp h)) (fun h => kf (fun q => h ((nI_eq ha hb).mpr q)))
theorem aw_icmp_neN (pc tgt a b : Nat) {x1 y1 : Int32} {off : Int} (hd : decode Y.2.1 pc = .ok (.if_icmp .ne off, 3)) (ht : (pc : Int) + off = (tgt : Int)) (hx : x1 = nI a) (hy : y1 = nI b) (ha : a < 2 ^ 31) (hb : b < 2 ^ 31) (kt : ¬ a = b → AW Y R Q tgt ls st M cs ss) (kf : a = b → AW Y R Q (pc + 3) ls st M cs ss) : AW Y R Q pc ls (.int y1 :: .int x1 :: st) M cs ss := by
  subst hx hy
  exact aw_icmp_ne pc tgt hd ht (fun h => kt (fun q => h ((nI_eq ha hb).mpr q))) (fun h => kf ((nI_eq ha hb).mp h))
theorem aw_icmp_ltN (pc tgt a b : Nat) {x1 y1 : Int32} {off : Int} (hd : decode Y.2.1 pc = .ok (.if_icmp .lt off, 3)) (ht : (pc : Int) + off = (tgt : Int)) (hx : x1 = nI a) (hy : y1 = nI b) (ha : a < 2 ^ 31) (hb : b < 2 ^ 31) (kt : a < b → AW Y R Q tgt ls st M cs ss) (kf : b ≤ a → AW Y R Q (pc + 3) ls st M cs ss) : AW Y R Q pc ls (.int y1 :: .int x1 :: st) M cs ss := by
  subst hx hy
  exact aw_icmp_lt pc tgt hd ht (fun h => kt ((nI_ltI ha hb).mp h)) (fun h => kf (by have := mt (nI_ltI ha hb).mpr h; omega))
theorem aw_icmp_geN (pc tgt a b : Nat) {x1 y1 : Int32} {off : Int} (hd : decode Y.2.1 pc = .ok (.if_icmp .ge off, 3)) (ht : (pc : Int) + off = (tgt : Int)) (hx : x1 = nI a) (hy : y1 = nI b) (ha : a < 2 ^ 31) (hb : b < 2 ^ 31) (kt : b ≤ a → AW Y R Q tgt ls st M cs ss) (kf : a < b → AW Y R Q (pc + 3) ls st M cs ss) : AW Y R Q pc ls (.int y1 :: .int x1 :: st) M cs ss := by
  subst hx hy
  exact aw_icmp_ge pc tgt hd ht (fun h => kt ((nI_leI hb ha).mp h)) (fun h => kf (by have := mt (nI_leI hb ha).mpr h; omega))
theorem aw_icmp_gtN (pc tgt a b : Nat) {x1 y1 : Int32} {off : Int} (hd : decode Y.2.1 pc = .ok (.if_icmp .gt off, 3)) (ht : (pc : Int) + off = (tgt : Int)) (hx : x1 = nI a) (hy : y1 = nI b) (ha : a < 2 ^ 31) (hb : b < 2 ^ 31) (kt : b < a → AW Y R Q tgt ls st M cs ss) (kf : a ≤ b → AW Y R Q (pc + 3) ls st M cs ss) : AW Y R Q pc ls (.int y1 :: .int x1 :: st) M cs ss := by
  subst hx hy
  exact aw_icmp_gt pc tgt hd ht (fun h => kt ((nI_ltI hb ha).mp h)) (fun h => kf (by have := mt (nI_ltI hb ha).mpr h; omega))
theorem aw_icmp_leN (pc tgt a b : Nat) {x1 y1 : Int32} {off : Int} (hd : decode Y.2.1 pc = .ok (.if_icmp .le off, 3)) (ht : (pc : Int) + off = (tgt : Int)) (hx : x1 = nI a) (hy : y1 = nI b) (ha : a < 2 ^ 31) (hb : b < 2 ^ 31) (kt : a ≤ b → AW Y R Q tgt ls st M cs ss) (kf : b < a → AW Y R Q (pc + 3) ls st M cs ss) : AW Y R Q pc ls (.int y1 :: .int x1 :: st) M cs ss := by
  subst hx hy
  exact aw_icmp_le pc tgt hd ht (fun h => kt ((nI_leI ha hb).mp h)) (fun h => kf (by have := mt (nI_leI ha hb).mpr h; omega))
theorem aw_if_eqN (pc tgt a : Nat) {x1 : Int32} {off : Int} (hd : decode Y.2.1 pc = .ok (.ifCond .eq off, 3)) (ht : (pc : Int) + off = (tgt : Int)) (hx : x1 = nI a) (ha : a < 2 ^ 31) (kt : a = 0 → AW Y R Q tgt ls st M cs ss) (kf : 0 < a → AW Y R Q (pc + 3) ls st M cs ss) : AW Y R Q pc ls (.int x1 :: st) M cs ss := by
  subst hx
  exact aw_if_eq pc tgt hd ht (fun h => kt ((nI_eq ha (show (0 : Nat) < 2 ^ 31 by omega)).mp h)) (fun h => kf (by have : ¬ a = 0 := fun q => h ((nI_eq ha (show (0 : Nat) < 2 ^ 31 by omega)).mpr q); omega))
theorem aw_if_neN (pc tgt a : Nat) {x1 : Int32} {off : Int} (hd : decode Y.2.1 pc = .ok (.ifCond .ne off, 3)) (ht : (pc : Int) + off = (tgt : Int)) (hx : x1 = nI a) (ha : a < 2 ^ 31) (kt : 0 < a → AW Y R Q tgt ls st M cs ss) (kf : a = 0 → AW Y R Q (pc + 3) ls st M cs ss) : AW Y R Q pc ls (.int x1 :: st) M cs ss := by
  subst hx
  exact aw_if_ne pc tgt hd ht (fun h => kt (by have : ¬ a = 0 := fun q => h ((nI_eq ha (show (0 : Nat) < 2 ^ 31 by omega)).mpr q); omega)) (fun h => kf ((nI_eq ha (show (0 : Nat) < 2 ^ 31 by omega)).mp h))
theorem aw_if_leN (pc tgt a : Nat) {x1 : Int32} {off : Int} (hd : decode Y.2.1 pc = .ok (.ifCond .le off, 3)) (ht : (pc : Int) + off = (tgt : Int)) (hx : x1 = nI a) (ha : a < 2 ^ 31) (kt : a = 0 → AW Y R Q tgt ls st M cs ss) (kf : 0 < a → AW Y R Q (pc + 3) ls st M cs ss) : AW Y R Q pc ls (.int x1 :: st) M cs ss := by
  subst hx
  exact aw_if_le pc tgt hd ht (fun h => kt (by have := (nI_leI ha (show (0 : Nat) < 2 ^ 31 by omega)).mp h; omega)) (fun h => kf (by have : ¬ a ≤ 0 := fun q => h ((nI_leI ha (show (0 : Nat) < 2 ^ 31 by omega)).mpr q); omega))
theorem aw_if_gtN (pc tgt a : Nat) {x1 : Int32} {off : Int} (hd : decode Y.2.1 pc = .ok (.ifCond .gt off, 3)) (ht : (pc : Int) + off = (tgt : Int)) (hx : x1 = nI a) (ha : a < 2 ^ 31) (kt : 0 < a → AW Y R Q tgt ls st M cs ss) (kf : a = 0 → AW Y R Q (pc + 3) ls st M cs ss) : AW Y R Q pc ls (.int x1 :: st) M cs ss := by
  subst hx
  exact aw_if_gt pc tgt hd ht (fun h => kt ((nI_ltI (show (0 : Nat) < 2 ^ 31 by omega) ha).mp h)) (fun h => kf (by have : ¬ 0 < a := fun q => h ((nI_ltI (show (0 : Nat) < 2 ^ 31 by omega) ha).mpr q); omega))
theorem aw_if_ltN (pc tgt a : Nat) {x1 : Int32} {off : Int} (hd : decode Y.2.1 pc = .ok (.ifCond .lt off, 3)) (ht : (pc : Int) + off = (tgt : Int)) (hx : x1 = nI a) (ha : a < 2 ^ 31) (kf : AW Y R Q (pc + 3) ls st M cs ss) : AW Y R Q pc ls (.int x1 :: st) M cs ss := by
  subst hx
  exact aw_if_lt pc tgt hd ht (fun h => absurd h (nI_pos ha)) (fun _ => kf)
theorem aw_if_geN (pc tgt a : Nat) {x1 : Int32} {off : Int} (hd : decode Y.2.1 pc = .ok (.ifCond .ge off, 3)) (ht : (pc : Int) + off = (tgt : Int)) (hx : x1 = nI a) (ha : a < 2 ^ 31) (kt : AW Y R Q tgt ls st M cs ss) : AW Y R Q pc ls (.int x1 :: st) M cs ss := by
  subst hx
  exact aw_if_ge pc tgt hd ht (fun _ => kt) (fun h => absurd (nI_pos' ha) h)
end
theorem lc_lt {x y : Int64} : lg_cmp x y < 0 ↔ x < y := by
  unfold lg_cmp
  by_cases h1 : x > y
  · have : ¬ x < y := fun h => by rw [gt_iff_lt] at h1; exact absurd (Int64.lt_trans h h1) (Int64.lt_irrefl)
    simp [h1, this]
  · by_cases h2 : x = y
    · subst h2; simp [Int64.lt_irrefl]
    · simp only [h1, h2, if_false]
      constructor
      · intro _
        rw [gt_iff_lt, Int64.not_lt] at h1
        exact Int64.lt_of_le_of_ne h1 h2
      · intro _; decide
theorem lc_gt {x y : Int64} : 0 < lg_cmp x y ↔ y < x := by
  unfold lg_cmp
  by_cases h1 : y < x
  · rw [if_pos (show x > y from h1)]
    exact ⟨fun _ => h1, fun _ => by decide⟩
  · rw [if_neg (show ¬ x > y from h1)]
    by_cases h2 : x = y <;> simp [h1, h2] <;> decide
theorem lc_le {x y : Int64} : lg_cmp x y ≤ 0 ↔ x ≤ y := by
  rw [← Int32.not_lt, lc_gt, Int64.not_lt]
theorem lc_ge {x y : Int64} : 0 ≤ lg_cmp x y ↔ y ≤ x := by
  rw [← Int32.not_lt, lc_lt, Int64.not_lt]
theorem bi_congr {c d : Prop} [Decidable c] [Decidable d] (h : c ↔ d) : bi c = bi d := by
  unfold bi
  by_cases hc : c
  · rw [if_pos hc, if_pos (h.mp hc)]
  · rw [if_neg hc, if_neg (fun q => hc (h.mpr q))]
theorem sd_r {Z : YY} {rm : Room} {as : List Value} {r r' : Int32} (h : SD Z rm as (some (.int r))) (e : r = r') : SD Z rm as (some (.int r')) := e ▸ h
theorem nl {a b : Prop} (h : ¬ a) : ¬ (a ∧ b) := fun q => h q.1
theorem nr {a b : Prop} (h : ¬ b) : ¬ (a ∧ b) := fun q => h q.2
theorem nn {a : Prop} (h : a) : ¬ ¬ a := fun q => q h
/-- an index as the machine has it -/
abbrev ir (p : Int32) (n : Nat) : Prop := 0 ≤ p.toInt ∧ p.toInt < (n : Int)

def rmX12_in : Room := { frames := 0, cells := 0, slots := 0, locals := 0 }
set_option maxHeartbeats 4000000 in
set_option maxRecDepth 100000 in
theorem c_X12_in {v l h : Int64} : SD mX12_in rmX12_in [.long v, .long l, .long h] (some (.int (bi (l ≤ v ∧ v ≤ h)))) := by
  intro M
  refine am_of rfl rfl (ls := [some (.long v), none, some (.long l), none, some (.long h), none]) rfl ?_
  refine aw_lload0 0 dX12_in_0 ?_
  refine aw_lload2 1 dX12_in_1 ?_
  refine aw_lcmp 2 dX12_in_2 ?_
  refine aw_if_lt 3 17 dX12_in_3 (by decide) (fun h3 => ?_) (fun h3 => ?_)
  · refine aw_ic0 17 dX12_in_17 ?_
    refine aw_zret 18 dX12_in_18 rfl (by first | rfl | exact bi_nar | decide) (Nat.zero_le _) (Nat.zero_le _) ?_
    simp only [lc_lt, lc_gt, Int64.not_lt] at h3
    try simp only [lc_lt, lc_gt, Int64.not_lt] at h10
    refine ⟨?_, rfl⟩
    first
      | rw [bi_t ⟨by assumption, by assumption⟩]
      | rw [bi_f (fun q => by first | exact absurd q.1 (Int64.not_le.mpr (by assumption)) | exact absurd q.2 (Int64.not_le.mpr (by assumption)))]
  · refine aw_lload0 6 dX12_in_6 ?_
    refine aw_lload4 7 dX12_in_7 ?_
    refine aw_lcmp 9 dX12_in_9 ?_
    refine aw_if_gt 10 17 dX12_in_10 (by decide) (fun h10 => ?_) (fun h10 => ?_)
    · refine aw_ic0 17 dX12_in_17 ?_
      refine aw_zret 18 dX12_in_18 rfl (by first | rfl | exact bi_nar | decide) (Nat.zero_le _) (Nat.zero_le _) ?_
      simp only [lc_lt, lc_gt, Int64.not_lt] at h3
      try simp only [lc_lt, lc_gt, Int64.not_lt] at h10
      refine ⟨?_, rfl⟩
      first
        | rw [bi_t ⟨by assumption, by assumption⟩]
        | rw [bi_f (fun q => by first | exact absurd q.1 (Int64.not_le.mpr (by assumption)) | exact absurd q.2 (Int64.not_le.mpr (by assumption)))]
    · refine aw_ic1 13 dX12_in_13 ?_
      refine aw_goto 14 18 dX12_in_14 (by decide) ?_
      refine aw_zret 18 dX12_in_18 rfl (by first | rfl | exact bi_nar | decide) (Nat.zero_le _) (Nat.zero_le _) ?_
      simp only [lc_lt, lc_gt, Int64.not_lt] at h3
      try simp only [lc_lt, lc_gt, Int64.not_lt] at h10
      refine ⟨?_, rfl⟩
      first
        | rw [bi_t ⟨by assumption, by assumption⟩]
        | rw [bi_f (fun q => by first | exact absurd q.1 (Int64.not_le.mpr (by assumption)) | exact absurd q.2 (Int64.not_le.mpr (by assumption)))]

theorem c_in2 {v : Int32} {L H : Int64} (l h : Int) (hl : L.toInt = l) (hh : H.toInt = h) : SD mX12_in rmX12_in [.long v.toInt64, .long L, .long H] (some (.int (bi (l ≤ v.toInt ∧ v.toInt ≤ h)))) := by
  refine sd_r c_X12_in (bi_congr ?_)
  rw [Int64.le_iff_toInt_le, Int64.le_iff_toInt_le, Int32.toInt_toInt64, hl, hh]

def rmX12_lost : Room := { frames := 0, cells := 0, slots := 0, locals := 0 }
set_option maxHeartbeats 4000000 in
set_option maxRecDepth 100000 in
theorem c_X12_lost  : SD mX12_lost rmX12_lost [] (some (.long (-9223372036854775808))) := by
  intro M
  refine am_of rfl rfl (ls := []) rfl ?_
  refine aw_ldc2 0 (-9223372036854775808) dX12_lost_0 ckL_RX12_79 ?_
  refine aw_lret 3 dX12_lost_3 rfl (Nat.zero_le _) (Nat.zero_le _) ?_
  exact ⟨rfl, rfl⟩

def rmX12_hasBit : Room := { frames := 0, cells := 0, slots := 0, locals := 0 }
set_option maxHeartbeats 4000000 in
set_option maxRecDepth 100000 in
theorem c_X12_hasBit {s k : Int32} : SD mX12_hasBit rmX12_hasBit [.int s, .int k] (some (.int (bi ((s >>> (k &&& 31)) &&& 1 = 1)))) := by
  intro M
  refine am_of rfl rfl (ls := [some (.int s), some (.int k)]) rfl ?_
  refine aw_iload0 0 dX12_hasBit_0 ?_
  refine aw_iload1 1 dX12_hasBit_1 ?_
  refine aw_ishr 2 dX12_hasBit_2 ?_
  refine aw_ic1 3 dX12_hasBit_3 ?_
  refine aw_iand 4 dX12_hasBit_4 ?_
  refine aw_ic1 5 dX12_hasBit_5 ?_
  refine aw_icmp_ne 6 13 dX12_hasBit_6 (by decide) (fun h6 => ?_) (fun h6 => ?_)
  · refine aw_ic0 13 dX12_hasBit_13 ?_
    refine aw_zret 14 dX12_hasBit_14 rfl (by first | rfl | exact bi_nar | decide) (Nat.zero_le _) (Nat.zero_le _) ?_
    exact ⟨by first | rw [bi_t h6] | rw [bi_f h6], rfl⟩
  · refine aw_ic1 9 dX12_hasBit_9 ?_
    refine aw_goto 10 14 dX12_hasBit_10 (by decide) ?_
    refine aw_zret 14 dX12_hasBit_14 rfl (by first | rfl | exact bi_nar | decide) (Nat.zero_le _) (Nat.zero_le _) ?_
    exact ⟨by first | rw [bi_t h6] | rw [bi_f h6], rfl⟩

def szO (v : Int32) : Int32 := if v < 0 then -v else v
def lsr (a b : Int32) : Int32 := if a < b then a else b
def gtr (a b : Int32) : Int32 := if b < a then a else b
def rmX12_sizeOf : Room := { frames := 0, cells := 0, slots := 0, locals := 0 }
set_option maxHeartbeats 4000000 in
set_option maxRecDepth 100000 in
theorem c_X12_sizeOf {v : Int32} : SD mX12_sizeOf rmX12_sizeOf [.int v] (some (.int (szO v))) := by
  intro M
  refine am_of rfl rfl (ls := [some (.int v)]) rfl ?_
  refine aw_iload0 0 dX12_sizeOf_0 ?_
  refine aw_if_ge 1 9 dX12_sizeOf_1 (by decide) (fun h1 => ?_) (fun h1 => ?_)
  · refine aw_iload0 9 dX12_sizeOf_9 ?_
    refine aw_iret 10 dX12_sizeOf_10 rfl (Nat.zero_le _) (Nat.zero_le _) ?_
    exact ⟨by unfold szO; first | rw [if_neg (Int32.not_lt.mpr h1)] | rw [if_pos (Int32.not_le.mp h1)], rfl⟩
  · refine aw_iload0 4 dX12_sizeOf_4 ?_
    refine aw_ineg 5 dX12_sizeOf_5 ?_
    refine aw_goto 6 10 dX12_sizeOf_6 (by decide) ?_
    refine aw_iret 10 dX12_sizeOf_10 rfl (Nat.zero_le _) (Nat.zero_le _) ?_
    exact ⟨by unfold szO; first | rw [if_neg (Int32.not_lt.mpr h1)] | rw [if_pos (Int32.not_le.mp h1)], rfl⟩

def rmX12_lesser : Room := { frames := 0, cells := 0, slots := 0, locals := 0 }
set_option maxHeartbeats 4000000 in
set_option maxRecDepth 100000 in
theorem c_X12_lesser {a b : Int32} : SD mX12_lesser rmX12_lesser [.int a, .int b] (some (.int (lsr a b))) := by
  intro M
  refine am_of rfl rfl (ls := [some (.int a), some (.int b)]) rfl ?_
  refine aw_iload0 0 dX12_lesser_0 ?_
  refine aw_iload1 1 dX12_lesser_1 ?_
  refine aw_icmp_ge 2 9 dX12_lesser_2 (by decide) (fun h2 => ?_) (fun h2 => ?_)
  · refine aw_iload1 9 dX12_lesser_9 ?_
    refine aw_iret 10 dX12_lesser_10 rfl (Nat.zero_le _) (Nat.zero_le _) ?_
    exact ⟨by unfold lsr; first | rw [if_neg (Int32.not_lt.mpr h2)] | rw [if_pos (Int32.not_le.mp h2)], rfl⟩
  · refine aw_iload0 5 dX12_lesser_5 ?_
    refine aw_goto 6 10 dX12_lesser_6 (by decide) ?_
    refine aw_iret 10 dX12_lesser_10 rfl (Nat.zero_le _) (Nat.zero_le _) ?_
    exact ⟨by unfold lsr; first | rw [if_neg (Int32.not_lt.mpr h2)] | rw [if_pos (Int32.not_le.mp h2)], rfl⟩

def rmX12_greater : Room := { frames := 0, cells := 0, slots := 0, locals := 0 }
set_option maxHeartbeats 4000000 in
set_option maxRecDepth 100000 in
theorem c_X12_greater {a b : Int32} : SD mX12_greater rmX12_greater [.int a, .int b] (some (.int (gtr a b))) := by
  intro M
  refine am_of rfl rfl (ls := [some (.int a), some (.int b)]) rfl ?_
  refine aw_iload0 0 dX12_greater_0 ?_
  refine aw_iload1 1 dX12_greater_1 ?_
  refine aw_icmp_le 2 9 dX12_greater_2 (by decide) (fun h2 => ?_) (fun h2 => ?_)
  · refine aw_iload1 9 dX12_greater_9 ?_
    refine aw_iret 10 dX12_greater_10 rfl (Nat.zero_le _) (Nat.zero_le _) ?_
    exact ⟨by unfold gtr; first | rw [if_neg (Int32.not_lt.mpr h2)] | rw [if_pos (Int32.not_le.mp h2)], rfl⟩
  · refine aw_iload0 5 dX12_greater_5 ?_
    refine aw_goto 6 10 dX12_greater_6 (by decide) ?_
    refine aw_iret 10 dX12_greater_10 rfl (Nat.zero_le _) (Nat.zero_le _) ?_
    exact ⟨by unfold gtr; first | rw [if_neg (Int32.not_lt.mpr h2)] | rw [if_pos (Int32.not_le.mp h2)], rfl⟩

def rmX12_isLane : Room := { frames := 1, cells := 0, slots := 0, locals := 25 }
set_option maxHeartbeats 4000000 in
set_option maxRecDepth 100000 in
theorem c_X12_isLane {v : Int32} : SD mX12_isLane rmX12_isLane [.int v] (some (.int (bi ((0 : Int) ≤ v.toInt ∧ v.toInt ≤ 2)))) := by
  intro M
  refine am_of rfl rfl (ls := [some (.int v)]) rfl ?_
  refine aw_iload0 0 dX12_isLane_0 ?_
  refine aw_i2l 1 dX12_isLane_1 ?_
  refine aw_lc0 2 dX12_isLane_2 ?_
  refine aw_ldc2 3 (2) dX12_isLane_3 ckL_RX12_97 ?_
  refine sd_call1 6 dX12_isLane_6 (c_in2 0 2 (by decide) (by decide)) ckS_RX12_99 cd_X12_in rfl (Nat.le_of_ble_eq_true rfl) ⟨⟨by decide, by decide⟩, by decide, by decide⟩ rfl ?_
  refine aw_zret 9 dX12_isLane_9 rfl (by first | rfl | exact bi_nar | decide) (Nat.zero_le _) (Nat.zero_le _) ?_
  exact ⟨rfl, rfl⟩

def rmX12_isHour : Room := { frames := 1, cells := 0, slots := 0, locals := 25 }
set_option maxHeartbeats 4000000 in
set_option maxRecDepth 100000 in
theorem c_X12_isHour {v : Int32} : SD mX12_isHour rmX12_isHour [.int v] (some (.int (bi ((0 : Int) ≤ v.toInt ∧ v.toInt ≤ 999)))) := by
  intro M
  refine am_of rfl rfl (ls := [some (.int v)]) rfl ?_
  refine aw_iload0 0 dX12_isHour_0 ?_
  refine aw_i2l 1 dX12_isHour_1 ?_
  refine aw_lc0 2 dX12_isHour_2 ?_
  refine aw_ldc2 3 (999) dX12_isHour_3 ckL_RX12_103 ?_
  refine sd_call1 6 dX12_isHour_6 (c_in2 0 999 (by decide) (by decide)) ckS_RX12_99 cd_X12_in rfl (Nat.le_of_ble_eq_true rfl) ⟨⟨by decide, by decide⟩, by decide, by decide⟩ rfl ?_
  refine aw_zret 9 dX12_isHour_9 rfl (by first | rfl | exact bi_nar | decide) (Nat.zero_le _) (Nat.zero_le _) ?_
  exact ⟨rfl, rfl⟩

def rmX12_isMark : Room := { frames := 1, cells := 0, slots := 0, locals := 25 }
set_option maxHeartbeats 4000000 in
set_option maxRecDepth 100000 in
theorem c_X12_isMark {v : Int32} : SD mX12_isMark rmX12_isMark [.int v] (some (.int (bi ((0 : Int) ≤ v.toInt ∧ v.toInt ≤ 255)))) := by
  intro M
  refine am_of rfl rfl (ls := [some (.int v)]) rfl ?_
  refine aw_iload0 0 dX12_isMark_0 ?_
  refine aw_i2l 1 dX12_isMark_1 ?_
  refine aw_lc0 2 dX12_isMark_2 ?_
  refine aw_ldc2 3 (255) dX12_isMark_3 ckL_RX12_265 ?_
  refine sd_call1 6 dX12_isMark_6 (c_in2 0 255 (by decide) (by decide)) ckS_RX12_99 cd_X12_in rfl (Nat.le_of_ble_eq_true rfl) ⟨⟨by decide, by decide⟩, by decide, by decide⟩ rfl ?_
  refine aw_zret 9 dX12_isMark_9 rfl (by first | rfl | exact bi_nar | decide) (Nat.zero_le _) (Nat.zero_le _) ?_
  exact ⟨rfl, rfl⟩

def rmX12_noSheet : Room := { frames := 1, cells := 0, slots := 0, locals := 25 }
set_option maxHeartbeats 4000000 in
set_option maxRecDepth 100000 in
theorem c_X12_noSheet {v : Int32} : SD mX12_noSheet rmX12_noSheet [.int v] (some (.int (bi (¬ ((0 : Int) ≤ v.toInt ∧ v.toInt ≤ 3))))) := by
  intro M
  refine am_of rfl rfl (ls := [some (.int v)]) rfl ?_
  refine aw_iload0 0 dX12_noSheet_0 ?_
  refine aw_i2l 1 dX12_noSheet_1 ?_
  refine aw_lc0 2 dX12_noSheet_2 ?_
  refine aw_ldc2 3 (3) dX12_noSheet_3 ckL_RX12_260 ?_
  refine sd_call1 6 dX12_noSheet_6 (c_in2 0 3 (by decide) (by decide)) ckS_RX12_99 cd_X12_in rfl (Nat.le_of_ble_eq_true rfl) ⟨⟨by decide, by decide⟩, by decide, by decide⟩ rfl ?_
  refine aw_ifne_b 9 16 dX12_noSheet_9 (by decide) (fun h9 => ?_) (fun h9 => ?_)
  · refine aw_ic0 16 dX12_noSheet_16 ?_
    refine aw_zret 17 dX12_noSheet_17 rfl (by first | rfl | exact bi_nar | decide) (Nat.zero_le _) (Nat.zero_le _) ?_
    exact ⟨by first | (rw [bi_f (fun q => q h9)]; done) | (rw [bi_t h9]; done), rfl⟩
  · refine aw_ic1 12 dX12_noSheet_12 ?_
    refine aw_goto 13 17 dX12_noSheet_13 (by decide) ?_
    refine aw_zret 17 dX12_noSheet_17 rfl (by first | rfl | exact bi_nar | decide) (Nat.zero_le _) (Nat.zero_le _) ?_
    exact ⟨by first | (rw [bi_f (fun q => q h9)]; done) | (rw [bi_t h9]; done), rfl⟩

def abv (l r : Int32) : Int32 := 31 * l + 17 * r + 5 - (31 * l + 17 * r + 5) / 9973 * 9973
def rmX12_above : Room := { frames := 0, cells := 0, slots := 0, locals := 0 }
set_option maxHeartbeats 4000000 in
set_option maxRecDepth 100000 in
theorem c_X12_above {l r : Int32} : SD mX12_above rmX12_above [.int l, .int r] (some (.int (abv l r))) := by
  intro M
  refine am_of rfl rfl (ls := [some (.int l), some (.int r)]) rfl ?_
  refine aw_bipush 0 31 dX12_above_0 (by decide) ?_
  refine aw_iload0 2 dX12_above_2 ?_
  refine aw_imul 3 dX12_above_3 ?_
  refine aw_bipush 4 17 dX12_above_4 (by decide) ?_
  refine aw_iload1 6 dX12_above_6 ?_
  refine aw_imul 7 dX12_above_7 ?_
  refine aw_iadd 8 dX12_above_8 ?_
  refine aw_ic5 9 dX12_above_9 ?_
  refine aw_iadd 10 dX12_above_10 ?_
  refine aw_sipush 11 9973 dX12_above_11 (by decide) ?_
  refine aw_irem 14 dX12_above_14 (by decide) ?_
  refine aw_iret 15 dX12_above_15 rfl (Nat.zero_le _) (Nat.zero_le _) ?_
  exact ⟨rfl, rfl⟩

def rmX12_isBeyond : Room := { frames := 0, cells := 0, slots := 0, locals := 0 }
set_option maxHeartbeats 4000000 in
set_option maxRecDepth 100000 in
theorem c_X12_isBeyond {i : Int32} {n : Int64} {a : Int32} : SD mX12_isBeyond rmX12_isBeyond [.int i, .long n, .int a] (some (.int (bi (i < 0 ∨ n < 0 ∨ a.toInt64 < i.toInt64 + n)))) := by
  intro M
  refine am_of rfl rfl (ls := [some (.int i), some (.long n), none, some (.int a)]) rfl ?_
  refine aw_iload0 0 dX12_isBeyond_0 ?_
  refine aw_if_lt 1 20 dX12_isBeyond_1 (by decide) (fun h1 => ?_) (fun h1 => ?_)
  · refine aw_ic1 20 dX12_isBeyond_20 ?_
    refine aw_goto 21 25 dX12_isBeyond_21 (by decide) ?_
    refine aw_zret 25 dX12_isBeyond_25 rfl (by first | rfl | exact bi_nar | decide) (Nat.zero_le _) (Nat.zero_le _) ?_
    try simp only [lc_lt] at h7
    try simp only [lc_le, Int64.not_le] at h17
    refine ⟨?_, rfl⟩
    first
      | rw [bi_t (Or.inl h1)]
      | rw [bi_t (Or.inr (Or.inl h7))]
      | rw [bi_t (Or.inr (Or.inr h17))]
      | rw [bi_f (fun q => by rcases q with q | q | q <;> first | exact h1 q | exact h7 q | exact absurd q (Int64.not_lt.mpr h17))]
  · refine aw_lload1 4 dX12_isBeyond_4 ?_
    refine aw_lc0 5 dX12_isBeyond_5 ?_
    refine aw_lcmp 6 dX12_isBeyond_6 ?_
    refine aw_if_lt 7 20 dX12_isBeyond_7 (by decide) (fun h7 => ?_) (fun h7 => ?_)
    · refine aw_ic1 20 dX12_isBeyond_20 ?_
      refine aw_goto 21 25 dX12_isBeyond_21 (by decide) ?_
      refine aw_zret 25 dX12_isBeyond_25 rfl (by first | rfl | exact bi_nar | decide) (Nat.zero_le _) (Nat.zero_le _) ?_
      try simp only [lc_lt] at h7
      try simp only [lc_le, Int64.not_le] at h17
      refine ⟨?_, rfl⟩
      first
        | rw [bi_t (Or.inl h1)]
        | rw [bi_t (Or.inr (Or.inl h7))]
        | rw [bi_t (Or.inr (Or.inr h17))]
        | rw [bi_f (fun q => by rcases q with q | q | q <;> first | exact h1 q | exact h7 q | exact absurd q (Int64.not_lt.mpr h17))]
    · refine aw_iload0 10 dX12_isBeyond_10 ?_
      refine aw_i2l 11 dX12_isBeyond_11 ?_
      refine aw_lload1 12 dX12_isBeyond_12 ?_
      refine aw_ladd 13 dX12_isBeyond_13 ?_
      refine aw_iload3 14 dX12_isBeyond_14 ?_
      refine aw_i2l 15 dX12_isBeyond_15 ?_
      refine aw_lcmp 16 dX12_isBeyond_16 ?_
      refine aw_if_le 17 24 dX12_isBeyond_17 (by decide) (fun h17 => ?_) (fun h17 => ?_)
      · refine aw_ic0 24 dX12_isBeyond_24 ?_
        refine aw_zret 25 dX12_isBeyond_25 rfl (by first | rfl | exact bi_nar | decide) (Nat.zero_le _) (Nat.zero_le _) ?_
        try simp only [lc_lt] at h7
        try simp only [lc_le, Int64.not_le] at h17
        refine ⟨?_, rfl⟩
        first
          | rw [bi_t (Or.inl h1)]
          | rw [bi_t (Or.inr (Or.inl h7))]
          | rw [bi_t (Or.inr (Or.inr h17))]
          | rw [bi_f (fun q => by rcases q with q | q | q <;> first | exact h1 q | exact h7 q | exact absurd q (Int64.not_lt.mpr h17))]
      · refine aw_ic1 20 dX12_isBeyond_20 ?_
        refine aw_goto 21 25 dX12_isBeyond_21 (by decide) ?_
        refine aw_zret 25 dX12_isBeyond_25 rfl (by first | rfl | exact bi_nar | decide) (Nat.zero_le _) (Nat.zero_le _) ?_
        try simp only [lc_lt] at h7
        try simp only [lc_le, Int64.not_le] at h17
        refine ⟨?_, rfl⟩
        first
          | rw [bi_t (Or.inl h1)]
          | rw [bi_t (Or.inr (Or.inl h7))]
          | rw [bi_t (Or.inr (Or.inr h17))]
          | rw [bi_f (fun q => by rcases q with q | q | q <;> first | exact h1 q | exact h7 q | exact absurd q (Int64.not_lt.mpr h17))]

def tnt (v c b : Int32) : Int32 := if c = 108 then lsr 99 (v + b) else if c = 109 then gtr 0 (v - b) else v / b * b
def rmX12_tinted : Room := { frames := 1, cells := 0, slots := 0, locals := 21 }
set_option maxHeartbeats 4000000 in
set_option maxRecDepth 100000 in
theorem c_X12_tinted {v c b : Int32} (hb : ¬ b = 0) : SD mX12_tinted rmX12_tinted [.int v, .int c, .int b] (some (.int (tnt v c b))) := by
  intro M
  refine am_of rfl rfl (ls := [some (.int v), some (.int c), some (.int b)]) rfl ?_
  refine aw_iload1 0 dX12_tinted_0 ?_
  refine aw_bipush 1 108 dX12_tinted_1 (by decide) ?_
  refine aw_icmp_ne 3 17 dX12_tinted_3 (by decide) (fun h3 => ?_) (fun h3 => ?_)
  · refine aw_iload1 17 dX12_tinted_17 ?_
    refine aw_bipush 18 109 dX12_tinted_18 (by decide) ?_
    refine aw_icmp_ne 20 33 dX12_tinted_20 (by decide) (fun h20 => ?_) (fun h20 => ?_)
    · refine aw_iload0 33 dX12_tinted_33 ?_
      refine aw_iload2 34 dX12_tinted_34 ?_
      refine aw_idiv 35 dX12_tinted_35 hb ?_
      refine aw_iload2 36 dX12_tinted_36 ?_
      refine aw_imul 37 dX12_tinted_37 ?_
      refine aw_iret 38 dX12_tinted_38 rfl (Nat.zero_le _) (Nat.zero_le _) ?_
      refine ⟨?_, rfl⟩
      unfold tnt
      first
        | rw [if_pos (by first | assumption | (subst_vars; rfl))]
        | rw [if_neg (by assumption), if_pos (by assumption)]
        | rw [if_neg (by assumption), if_neg (by assumption)]
    · refine aw_ic0 23 dX12_tinted_23 ?_
      refine aw_iload0 24 dX12_tinted_24 ?_
      refine aw_iload2 25 dX12_tinted_25 ?_
      refine aw_isub 26 dX12_tinted_26 ?_
      refine sd_call1 27 dX12_tinted_27 c_X12_greater ckS_RX12_187 cd_X12_greater rfl (Nat.le_of_ble_eq_true rfl) ⟨⟨by decide, by decide⟩, by decide, by decide⟩ rfl ?_
      refine aw_goto 30 38 dX12_tinted_30 (by decide) ?_
      refine aw_iret 38 dX12_tinted_38 rfl (Nat.zero_le _) (Nat.zero_le _) ?_
      refine ⟨?_, rfl⟩
      unfold tnt
      first
        | rw [if_pos (by first | assumption | (subst_vars; rfl))]
        | rw [if_neg (by assumption), if_pos (by assumption)]
        | rw [if_neg (by assumption), if_neg (by assumption)]
  · refine aw_bipush 6 99 dX12_tinted_6 (by decide) ?_
    refine aw_iload0 8 dX12_tinted_8 ?_
    refine aw_iload2 9 dX12_tinted_9 ?_
    refine aw_iadd 10 dX12_tinted_10 ?_
    refine sd_call1 11 dX12_tinted_11 c_X12_lesser ckS_RX12_184 cd_X12_lesser rfl (Nat.le_of_ble_eq_true rfl) ⟨⟨by decide, by decide⟩, by decide, by decide⟩ rfl ?_
    refine aw_goto 14 38 dX12_tinted_14 (by decide) ?_
    refine aw_iret 38 dX12_tinted_38 rfl (Nat.zero_le _) (Nat.zero_le _) ?_
    refine ⟨?_, rfl⟩
    unfold tnt
    first
      | rw [if_pos (by first | assumption | (subst_vars; rfl))]
      | rw [if_neg (by assumption), if_pos (by assumption)]
      | rw [if_neg (by assumption), if_neg (by assumption)]

