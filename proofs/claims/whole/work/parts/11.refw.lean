/-! the reference's world: its object at 25, its arrays at 26 to 48; what it holds: a table of numbers -/
abbrev TT : Type := Nat → Nat → Int32
def rLen (i : Nat) : Nat := match i with
  | 2 => 12
  | 3 => 12
  | 4 => 192
  | 5 => 32
  | 7 => 25
  | 11 => 16
  | 12 => 16
  | 14 => 6
  | 15 => 6
  | 16 => 12
  | 17 => 12
  | 18 => 12
  | 19 => 12
  | 20 => 12
  | 21 => 12
  | 22 => 300
  | 25 => 9
  | 26 => 9
  | 27 => 9
  | 28 => 4
  | 29 => 4
  | 30 => 240
  | 31 => 60
  | _ => 0
def rAd (i : Nat) : Nat := match i with
  | 2 => 26
  | 3 => 27
  | 4 => 28
  | 5 => 29
  | 7 => 30
  | 11 => 31
  | 12 => 32
  | 14 => 33
  | 15 => 34
  | 16 => 35
  | 17 => 36
  | 18 => 37
  | 19 => 38
  | 20 => 39
  | 21 => 40
  | 22 => 41
  | 25 => 42
  | 26 => 43
  | 27 => 44
  | 28 => 45
  | 29 => 46
  | 30 => 47
  | 31 => 48
  | _ => 0
def RW (τ : TT) (M : Mem) : Prop := M.2.1 25 = (12, 33) ∧ ∀ i, i < 33 → (rLen i = 0 → M.2.2 25 i = .int (τ i 0)) ∧ (0 < rLen i → M.2.2 25 i = .ref (rAd i) ∧ M.2.1 (rAd i) = (20, rLen i) ∧ ∀ k, k < rLen i → M.2.2 (rAd i) k = .int (τ i k))
def tu (τ : TT) (i k : Nat) (v : Int32) : TT := fun a b => if a = i ∧ b = k then v else τ a b
/-- nothing but the reference's cells has changed -/
def Off (M0 M : Mem) : Prop := M.1 = M0.1 ∧ M.2.1 = M0.2.1 ∧ ∀ a, ¬ (25 ≤ a ∧ a < 49) → M.2.2 a = M0.2.2 a
def RO (τ : TT) (M0 M : Mem) : Prop := RW τ M ∧ Off M0 M
theorem Off.rf (M : Mem) : Off M M := ⟨rfl, rfl, fun _ _ => rfl⟩
theorem Off.trans {A B C : Mem} (h : Off A B) (g : Off B C) : Off A C := ⟨g.1.trans h.1, g.2.1.trans h.2.1, fun a ha => (g.2.2 a ha).trans (h.2.2 a ha)⟩
theorem rAd_ne : ∀ i, i < 33 → 0 < rLen i → 25 < rAd i ∧ rAd i < 49 := by decide +kernel
theorem rAd_inj0 : ((List.range 33).all fun i => (List.range 33).all fun j => decide (rLen i = 0) || decide (rLen j = 0) || decide (rAd i ≠ rAd j) || decide (i = j)) = true := by decide +kernel
theorem rAd_inj {i j : Nat} (hi : i < 33) (hj : j < 33) (li : 0 < rLen i) (lj : 0 < rLen j) (h : rAd i = rAd j) : i = j := by
  have h1 := List.all_eq_true.mp (List.all_eq_true.mp rAd_inj0 i (List.mem_range.mpr hi)) j (List.mem_range.mpr hj)
  simp only [Bool.or_eq_true, decide_eq_true_eq] at h1
  rcases h1 with ((h1 | h1) | h1) | h1
  · omega
  · omega
  · exact absurd h h1
  · exact h1
theorem rLen_i {i k : Nat} (h : k < rLen i) : i < 33 := by
  rcases Nat.lt_or_ge i 33 with q | q
  · exact q
  · exfalso
    have : rLen i = 0 := by
      unfold rLen
      split <;> first | omega | rfl
    omega
theorem rLen_le (i : Nat) : rLen i < 2 ^ 31 := by
  unfold rLen
  split <;> decide
theorem wr_at (M : Mem) (a k : Nat) (v : Value) (b j : Nat) : (wr M a k v).2.2 b j = if b = a ∧ j = k then v else M.2.2 b j := by
  unfold wr wa
  by_cases h : b = a
  · subst h
    simp [up]
  · simp [h]
theorem RW.put {τ : TT} {M : Mem} {i : Nat} {v : Int32} (h : RW τ M) (hi : i < 33) (h0 : rLen i = 0) : RW (tu τ i 0 v) (wr M 25 i (.int v)) := by
  refine ⟨h.1, fun j hj => ⟨fun l0 => ?_, fun l1 => ?_⟩⟩
  · rw [wr_at]
    by_cases hji : j = i
    · subst hji
      simp [tu]
    · simp only [tu, hji, and_false, false_and, if_false]
      exact (h.2 j hj).1 l0
  · have hji : ¬ j = i := fun e => by subst e; omega
    have hne := rAd_ne j hj l1
    obtain ⟨g1, g2, g3⟩ := (h.2 j hj).2 l1
    refine ⟨?_, g2, fun k hk => ?_⟩
    · rw [wr_at]
      simp only [hji, and_false, if_false]
      exact g1
    · rw [wr_at, if_neg (by omega), g3 k hk]
      simp [tu, hji]
theorem RW.set {τ : TT} {M : Mem} {i k : Nat} {v : Int32} (h : RW τ M) (hk : k < rLen i) : RW (tu τ i k v) (wr M (rAd i) k (.int v)) := by
  have hi := rLen_i hk
  have hni := rAd_ne i hi (by omega)
  refine ⟨h.1, fun j hj => ⟨fun l0 => ?_, fun l1 => ?_⟩⟩
  · have hji : ¬ j = i := fun e => by subst e; omega
    rw [wr_at, if_neg (by omega), (h.2 j hj).1 l0]
    simp [tu, hji]
  · have hne := rAd_ne j hj l1
    obtain ⟨g1, g2, g3⟩ := (h.2 j hj).2 l1
    refine ⟨?_, g2, fun q hq => ?_⟩
    · rw [wr_at, if_neg (by omega)]
      exact g1
    · rw [wr_at]
      by_cases hji : j = i
      · subst hji
        by_cases hqk : q = k
        · subst hqk
          simp [tu]
        · simp only [tu, hqk, and_false, if_false]
          exact g3 q hq
      · have : ¬ rAd j = rAd i := fun e => hji (rAd_inj hj hi l1 (by omega) e)
        simp only [tu, this, hji, false_and, if_false]
        exact g3 q hq
theorem Off.wr {M0 M : Mem} {a k : Nat} {v : Value} (h : Off M0 M) (ha : 25 ≤ a ∧ a < 49) : Off M0 (wr M a k v) :=
  ⟨h.1, h.2.1, fun b hb => by
    have hne : ¬ b = a := fun e => hb (e ▸ ha)
    show (wa M a _).2.2 b = _
    simp only [wa, hne, if_false]
    exact h.2.2 b hb⟩
section
variable {Y : YY} {R : Room} {Q : Option Value → Mem → Prop} {ls : List (Option Value)} {st : List Value} {M M0 : Mem} {cs ss : Nat} {τ : TT}
theorem rw_gi (pc i : Nat) {idx : Nat} (hd : decode Y.2.1 pc = .ok (.getfield idx, 3)) (ck : ckF Y.1.cls idx 12 i = true) (hi : i < 33) (h0 : rLen i = 0) (hW : RO τ M0 M) (kk : AW Y R Q (pc + 3) ls (.int (τ i 0) :: st) M cs ss) : AW Y R Q pc ls (.ref 25 :: st) M cs ss :=
  aw_get pc hd ck hW.1.1 ((hW.1.2 i hi).1 h0) kk
theorem rw_ga (pc i : Nat) {idx : Nat} (hd : decode Y.2.1 pc = .ok (.getfield idx, 3)) (ck : ckF Y.1.cls idx 12 i = true) (hi : i < 33) (h0 : 0 < rLen i) (hW : RO τ M0 M) (kk : AW Y R Q (pc + 3) ls (.ref (rAd i) :: st) M cs ss) : AW Y R Q pc ls (.ref 25 :: st) M cs ss :=
  aw_get pc hd ck hW.1.1 ((hW.1.2 i hi).2 h0).1 kk
theorem rw_pi (pc i : Nat) {idx : Nat} {v : Int32} (hd : decode Y.2.1 pc = .ok (.putfield idx, 3)) (ck : ckF Y.1.cls idx 12 i = true) (cp : ckP 12 i = true) (ht : tyCl 12 i = .int) (hi : i < 33) (h0 : rLen i = 0) (hW : RO τ M0 M) (kk : ∀ M, RO (tu τ i 0 v) M0 M → AW Y R Q (pc + 3) ls st M cs ss) : AW Y R Q pc ls (.int v :: .ref 25 :: st) M cs ss :=
  aw_put pc hd ck cp hW.1.1 (by rw [ht]; rfl) (by rw [ht]; rfl) (kk _ ⟨hW.1.put hi h0, hW.2.wr ⟨Nat.le_refl 25, by omega⟩⟩)
theorem rw_ld (pc i j : Nat) {n : Int32} (hd : decode Y.2.1 pc = .ok (.iaload, 1)) (hW : RO τ M0 M) (hn : n = nI j) (hj : j < rLen i) (kk : AW Y R Q (pc + 1) ls (.int (τ i j) :: st) M cs ss) : AW Y R Q pc ls (.int n :: .ref (rAd i) :: st) M cs ss := by
  obtain ⟨g1, g2, g3⟩ := (hW.1.2 i (rLen_i hj)).2 (by omega)
  exact aw_iald pc j hd g2 hn hj (rLen_le i) (g3 j hj) kk
theorem rw_st (pc i j : Nat) {n v : Int32} (hd : decode Y.2.1 pc = .ok (.iastore, 1)) (hW : RO τ M0 M) (hn : n = nI j) (hj : j < rLen i) (kk : ∀ M, RO (tu τ i j v) M0 M → AW Y R Q (pc + 1) ls st M cs ss) : AW Y R Q pc ls (.int v :: .int n :: .ref (rAd i) :: st) M cs ss := by
  obtain ⟨g1, g2, g3⟩ := (hW.1.2 i (rLen_i hj)).2 (by omega)
  have hne := rAd_ne i (rLen_i hj) (by omega)
  exact aw_iast pc j hd g2 (by omega) hn hj (rLen_le i) (kk _ ⟨hW.1.set hj, hW.2.wr (by omega)⟩)
/-- a method of the reference: what it answers, what it makes of the table -/
def RD (Z : YY) (rm : Room) (as : List Value) (τ : TT) (r : Option Value) (τ' : TT) : Prop := ∀ M, RW τ M → AM Z rm (.ref 25 :: as) M (fun r' M' => r' = r ∧ RO τ' M M')
/-- a static method that touches nothing -/
def SD (Z : YY) (rm : Room) (as : List Value) (r : Option Value) : Prop := ∀ M, AM Z rm as M (fun r' M' => r' = r ∧ M' = M)
theorem rw_call (pc : Nat) {Z : YY} {rm : Room} {as st0 : List Value} {r : Option Value} {τ' : TT} {idx : Nat} (hd : decode Y.2.1 pc = .ok (.invokevirtual idx, 3)) (ck : ckV Y.1.cls idx Z as.length = true) (hcd : inTbl Z) (hcl : Z.1.cls = RX12) (hM : RD Z rm as τ r τ') (hW : RO τ M0 M) (hst : st0 = as.reverse ++ .ref 25 :: st) (hw : (st.map fun v => v.category).sum ≤ 8) (hR1 : rmOK R rm Z cs ss)
    (kk : ∀ M, RO τ' M0 M → AW Y R Q (pc + 3) ls (r.toList ++ st) M (cs + rm.cells) (ss + rm.slots)) : AW Y R Q pc ls st0 M cs ss :=
  aw_virt pc hd ck hcd hW.1.1 (show vwCl[12]? = some (RX12, TX12, 33) from rfl) hcl (hM M hW.1) hst hw hR1 (fun r' M' q => by
    obtain ⟨rfl, q2⟩ := q
    exact kk M' ⟨q2.1, hW.2.trans q2.2⟩)
theorem sd_call (pc : Nat) {Z : YY} {rm : Room} {as st0 : List Value} {r : Option Value} {idx : Nat} (hd : decode Y.2.1 pc = .ok (.invokestatic idx, 3)) (ck : ckS Y.1.cls idx Z as.length = true) (hcd : inTbl Z) (hM : SD Z rm as r) (hst : st0 = as.reverse ++ st) (hw : (st.map fun v => v.category).sum ≤ 8) (hR1 : rmOK R rm Z cs ss)
    (kk : AW Y R Q (pc + 3) ls (r.toList ++ st) M (cs + rm.cells) (ss + rm.slots)) : AW Y R Q pc ls st0 M cs ss :=
  aw_static pc hd ck hcd (hM M) hst hw hR1 (fun r' M' q => by
    obtain ⟨rfl, rfl⟩ := q
    exact kk)
/-- a condition as the machine has it -/
def bi (c : Prop) [Decidable c] : Int32 := if c then 1 else 0
theorem bi_ne0 {c : Prop} [Decidable c] : ¬ bi c = 0 ↔ c := by
  unfold bi
  by_cases h : c <;> simp [h]
theorem bi_eq0 {c : Prop} [Decidable c] : bi c = 0 ↔ ¬ c := by
  unfold bi
  by_cases h : c <;> simp [h]
theorem bi_t {c : Prop} [Decidable c] (h : c) : bi c = 1 := if_pos h
theorem bi_f {c : Prop} [Decidable c] (h : ¬ c) : bi c = 0 := if_neg h
theorem bi_nar {c : Prop} [Decidable c] : narrow .boolean (.int (bi c)) = .int (bi c) := by
  unfold bi
  by_cases h : c <;> simp [h] <;> rfl
theorem aw_ifeq_b (pc tgt : Nat) {c : Prop} [Decidable c] {off : Int} (hd : decode Y.2.1 pc = .ok (.ifCond .eq off, 3)) (ht : (pc : Int) + off = (tgt : Int)) (kt : ¬ c → AW Y R Q tgt ls st M cs ss) (kf : c → AW Y R Q (pc + 3) ls st M cs ss) : AW Y R Q pc ls (.int (bi c) :: st) M cs ss :=
  aw_if_eq pc tgt hd ht (fun h => kt (bi_eq0.mp h)) (fun h => kf (bi_ne0.mp h))
theorem aw_ifne_b (pc tgt : Nat) {c : Prop} [Decidable c] {off : Int} (hd : decode Y.2.1 pc = .ok (.ifCond .ne off, 3)) (ht : (pc : Int) + off = (tgt : Int)) (kt : c → AW Y R Q tgt ls st M cs ss) (kf : ¬ c → AW Y R Q (pc + 3) ls st M cs ss) : AW Y R Q pc ls (.int (bi c) :: st) M cs ss :=
  aw_if_ne pc tgt hd ht (fun h => kt (bi_ne0.mp h)) (fun h => kf (bi_eq0.mp h))
end
