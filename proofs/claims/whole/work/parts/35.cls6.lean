/-! the class: acts read (gen/cls6.py) -/
def RK (M : Mem) : Prop := M.2.1 9 = (4, 6) ∧ M.2.2 9 0 = .ref 10 ∧ M.2.2 9 2 = .ref 11 ∧ M.2.1 10 = (20, 5) ∧ M.2.1 11 = (20, 60)
/-- the reader: how many acts it has, how long its text is, where it stands, the text -/
def RV (M : Mem) (c l i : Nat) (t : Nat → Int32) : Prop := RK M ∧ M.2.2 9 1 = .int (nI c) ∧ M.2.2 9 3 = .int (nI l) ∧ M.2.2 9 4 = .int (nI i) ∧ ∀ k, k < l → M.2.2 11 k = .int (t k)
theorem RK.wf {M M' : Mem} {k : Nat} {v : Value} (h : RK M) (f : Wf 9 k v M M') (h0 : k ≠ 0) (h2 : k ≠ 2) : RK M' := ⟨by rw [f.2.1]; exact h.1, (f.2.2.2 9 0 (by omega)).trans h.2.1, (f.2.2.2 9 2 (by omega)).trans h.2.2.1, by rw [f.2.1]; exact h.2.2.2.1, by rw [f.2.1]; exact h.2.2.2.2⟩
theorem RK.wd {M M' : Mem} {a : Nat} (h : RK M) (f : Wd a M M') (h9 : a ≠ 9) : RK M' := ⟨by rw [f.2.1]; exact h.1, by rw [f.2.2 9 (by omega)]; exact h.2.1, by rw [f.2.2 9 (by omega)]; exact h.2.2.1, by rw [f.2.1]; exact h.2.2.2.1, by rw [f.2.1]; exact h.2.2.2.2⟩
theorem RV.at {M M' : Mem} {c l i x : Nat} {t : Nat → Int32} (h : RV M c l i t) (f : Wf 9 4 (.int (nI x)) M M') : RV M' c l x t := ⟨h.1.wf f (by decide) (by decide), (f.2.2.2 9 1 (by decide)).trans h.2.1, (f.2.2.2 9 3 (by decide)).trans h.2.2.1, f.2.2.1, fun k hk => (f.2.2.2 11 k (by omega)).trans (h.2.2.2.2 k hk)⟩
theorem RV.cnt {M M' : Mem} {c l i x : Nat} {t : Nat → Int32} (h : RV M c l i t) (f : Wf 9 1 (.int (nI x)) M M') : RV M' x l i t := ⟨h.1.wf f (by decide) (by decide), f.2.2.1, (f.2.2.2 9 3 (by decide)).trans h.2.2.1, (f.2.2.2 9 4 (by decide)).trans h.2.2.2.1, fun k hk => (f.2.2.2 11 k (by omega)).trans (h.2.2.2.2 k hk)⟩
theorem RV.num {M M' : Mem} {c l i : Nat} {x : Value} {t : Nat → Int32} (h : RV M c l i t) (f : Wf 9 5 x M M') : RV M' c l i t := ⟨h.1.wf f (by decide) (by decide), (f.2.2.2 9 1 (by decide)).trans h.2.1, (f.2.2.2 9 3 (by decide)).trans h.2.2.1, (f.2.2.2 9 4 (by decide)).trans h.2.2.2.1, fun k hk => (f.2.2.2 11 k (by omega)).trans (h.2.2.2.2 k hk)⟩
theorem RV.act {M M' : Mem} {c l i : Nat} {t : Nat → Int32} (h : RV M c l i t) (f : Wd 10 M M') : RV M' c l i t := ⟨h.1.wd f (by decide), by rw [f.2.2 9 (by decide)]; exact h.2.1, by rw [f.2.2 9 (by decide)]; exact h.2.2.1, by rw [f.2.2 9 (by decide)]; exact h.2.2.2.1, fun k hk => by rw [f.2.2 11 (by decide)]; exact h.2.2.2.2 k hk⟩
/-- kept acts -/
def KA (M : Mem) (c : Nat) (l : List (Int32 × Nat)) : Prop := ∀ j, j < l.length → ∃ a, l[j]? = some a ∧ M.2.2 c j = .int (enc a)
theorem KA.wd {M M' : Mem} {a c : Nat} {l : List (Int32 × Nat)} (h : KA M c l) (w : Wd a M M') (hc : c ≠ a) : KA M' c l := fun j hj => by
  obtain ⟨b, h1, h2⟩ := h j hj
  exact ⟨b, h1, by rw [w.2.2 c hc]; exact h2⟩
theorem KA.app {M M' : Mem} {c : Nat} {l : List (Int32 × Nat)} {q : Int32 × Nat} {v : Int32} {k : Nat} (h : KA M c l) (w : Wf c k (.int v) M M') (hk : l.length = k) (hv : v = enc q) : KA M' c (l ++ [q]) := fun j hj => by
  by_cases e : j = l.length
  · subst e hk hv
    exact ⟨q, List.getElem?_concat_length, w.2.2.1⟩
  · have hj2 : j < l.length := by rw [List.length_append, List.length_cons, List.length_nil] at hj; omega
    obtain ⟨b, h1, h2⟩ := h j hj2
    exact ⟨b, by rw [List.getElem?_append_left hj2]; exact h1, by rw [w.2.2.2 c j (by omega)]; exact h2⟩

def rmX4_code : Room := { frames := 0, cells := 0, slots := 0, locals := 0 }
set_option maxHeartbeats 4000000 in
set_option maxRecDepth 100000 in
theorem c_X4_code {M : Mem} {c l i : Nat} {t : Nat → Int32} (hV : RV M c l i t) (hl : l ≤ 60) (hi : i ≤ 100) : CR mX4_code rmX4_code [.ref 9] M (some (.int (cdA t l i))) := by
  refine am_of rfl rfl (ls := [some (.ref 9)]) rfl ?_
  refine aw_aload0 0 dX4_code_0 ?_
  refine aw_get 1 dX4_code_1 ckF_RX4_42_4 hV.1.1 hV.2.2.2.1 ?_
  refine aw_aload0 4 dX4_code_4 ?_
  refine aw_get 5 dX4_code_5 ckF_RX4_39_4 hV.1.1 hV.2.2.1 ?_
  refine aw_icmp_geN 8 23 (i) (l) dX4_code_8 (by decide) rfl rfl (by omega) (by omega) (fun h8 => ?_) (fun h8 => ?_)
  · refine aw_ic0 23 dX4_code_23 ?_
    refine aw_iret 24 dX4_code_24 rfl (Nat.zero_le _) (Nat.zero_le _) ?_
    refine ⟨?_, rfl⟩
    unfold cdA
    first
      | (rw [if_pos (by omega)]; done)
      | (rw [if_neg (by omega)]; done)
  · refine aw_aload0 11 dX4_code_11 ?_
    refine aw_get 12 dX4_code_12 ckF_RX4_15_4 hV.1.1 hV.1.2.2.1 ?_
    refine aw_aload0 15 dX4_code_15 ?_
    refine aw_get 16 dX4_code_16 ckF_RX4_42_4 hV.1.1 hV.2.2.2.1 ?_
    refine aw_iald 19 (i) dX4_code_19 hV.1.2.2.2.2 rfl (by omega) (by decide) (hV.2.2.2.2 _ (by omega)) ?_
    refine aw_goto 20 24 dX4_code_20 (by decide) ?_
    refine aw_iret 24 dX4_code_24 rfl (Nat.zero_le _) (Nat.zero_le _) ?_
    refine ⟨?_, rfl⟩
    unfold cdA
    first
      | (rw [if_pos (by omega)]; done)
      | (rw [if_neg (by omega)]; done)

def rmX4_isKind : Room := { frames := 0, cells := 0, slots := 0, locals := 0 }
set_option maxHeartbeats 4000000 in
set_option maxRecDepth 100000 in
theorem c_X4_isKind {c : Int32} : SD mX4_isKind rmX4_isKind [.int c] (some (.int (bi (isKd c)))) := by
  intro M
  refine am_of rfl rfl (ls := [some (.int c)]) rfl ?_
  refine aw_iload0 0 dX4_isKind_0 ?_
  refine aw_bipush 1 99 dX4_isKind_1 (by decide) ?_
  refine aw_icmp_eq 3 36 dX4_isKind_3 (by decide) (fun h3 => ?_) (fun h3 => ?_)
  · refine aw_ic1 36 dX4_isKind_36 ?_
    refine aw_goto 37 41 dX4_isKind_37 (by decide) ?_
    refine aw_zret 41 dX4_isKind_41 rfl (by first | rfl | exact bi_nar | decide) (Nat.zero_le _) (Nat.zero_le _) ?_
    refine ⟨?_, rfl⟩
    first
      | (rw [bi_t (show isKd c by first | exact Or.inl h3 | exact Or.inr (Or.inl h9) | exact Or.inr (Or.inr (Or.inl h15)) | exact Or.inr (Or.inr (Or.inr (Or.inl h21))) | exact Or.inr (Or.inr (Or.inr (Or.inr (Or.inl h27)))) | exact Or.inr (Or.inr (Or.inr (Or.inr (Or.inr h33)))))]; done)
      | (rw [bi_f (show ¬ isKd c from fun q => by
          rcases q with q | q | q | q | q | q
          · exact h3 q
          · exact h9 q
          · exact h15 q
          · exact h21 q
          · exact h27 q
          · exact h33 q)]; done)
  · refine aw_iload0 6 dX4_isKind_6 ?_
    refine aw_bipush 7 98 dX4_isKind_7 (by decide) ?_
    refine aw_icmp_eq 9 36 dX4_isKind_9 (by decide) (fun h9 => ?_) (fun h9 => ?_)
    · refine aw_ic1 36 dX4_isKind_36 ?_
      refine aw_goto 37 41 dX4_isKind_37 (by decide) ?_
      refine aw_zret 41 dX4_isKind_41 rfl (by first | rfl | exact bi_nar | decide) (Nat.zero_le _) (Nat.zero_le _) ?_
      refine ⟨?_, rfl⟩
      first
        | (rw [bi_t (show isKd c by first | exact Or.inl h3 | exact Or.inr (Or.inl h9) | exact Or.inr (Or.inr (Or.inl h15)) | exact Or.inr (Or.inr (Or.inr (Or.inl h21))) | exact Or.inr (Or.inr (Or.inr (Or.inr (Or.inl h27)))) | exact Or.inr (Or.inr (Or.inr (Or.inr (Or.inr h33)))))]; done)
        | (rw [bi_f (show ¬ isKd c from fun q => by
            rcases q with q | q | q | q | q | q
            · exact h3 q
            · exact h9 q
            · exact h15 q
            · exact h21 q
            · exact h27 q
            · exact h33 q)]; done)
    · refine aw_iload0 12 dX4_isKind_12 ?_
      refine aw_bipush 13 116 dX4_isKind_13 (by decide) ?_
      refine aw_icmp_eq 15 36 dX4_isKind_15 (by decide) (fun h15 => ?_) (fun h15 => ?_)
      · refine aw_ic1 36 dX4_isKind_36 ?_
        refine aw_goto 37 41 dX4_isKind_37 (by decide) ?_
        refine aw_zret 41 dX4_isKind_41 rfl (by first | rfl | exact bi_nar | decide) (Nat.zero_le _) (Nat.zero_le _) ?_
        refine ⟨?_, rfl⟩
        first
          | (rw [bi_t (show isKd c by first | exact Or.inl h3 | exact Or.inr (Or.inl h9) | exact Or.inr (Or.inr (Or.inl h15)) | exact Or.inr (Or.inr (Or.inr (Or.inl h21))) | exact Or.inr (Or.inr (Or.inr (Or.inr (Or.inl h27)))) | exact Or.inr (Or.inr (Or.inr (Or.inr (Or.inr h33)))))]; done)
          | (rw [bi_f (show ¬ isKd c from fun q => by
              rcases q with q | q | q | q | q | q
              · exact h3 q
              · exact h9 q
              · exact h15 q
              · exact h21 q
              · exact h27 q
              · exact h33 q)]; done)
      · refine aw_iload0 18 dX4_isKind_18 ?_
        refine aw_bipush 19 108 dX4_isKind_19 (by decide) ?_
        refine aw_icmp_eq 21 36 dX4_isKind_21 (by decide) (fun h21 => ?_) (fun h21 => ?_)
        · refine aw_ic1 36 dX4_isKind_36 ?_
          refine aw_goto 37 41 dX4_isKind_37 (by decide) ?_
          refine aw_zret 41 dX4_isKind_41 rfl (by first | rfl | exact bi_nar | decide) (Nat.zero_le _) (Nat.zero_le _) ?_
          refine ⟨?_, rfl⟩
          first
            | (rw [bi_t (show isKd c by first | exact Or.inl h3 | exact Or.inr (Or.inl h9) | exact Or.inr (Or.inr (Or.inl h15)) | exact Or.inr (Or.inr (Or.inr (Or.inl h21))) | exact Or.inr (Or.inr (Or.inr (Or.inr (Or.inl h27)))) | exact Or.inr (Or.inr (Or.inr (Or.inr (Or.inr h33)))))]; done)
            | (rw [bi_f (show ¬ isKd c from fun q => by
                rcases q with q | q | q | q | q | q
                · exact h3 q
                · exact h9 q
                · exact h15 q
                · exact h21 q
                · exact h27 q
                · exact h33 q)]; done)
        · refine aw_iload0 24 dX4_isKind_24 ?_
          refine aw_bipush 25 109 dX4_isKind_25 (by decide) ?_
          refine aw_icmp_eq 27 36 dX4_isKind_27 (by decide) (fun h27 => ?_) (fun h27 => ?_)
          · refine aw_ic1 36 dX4_isKind_36 ?_
            refine aw_goto 37 41 dX4_isKind_37 (by decide) ?_
            refine aw_zret 41 dX4_isKind_41 rfl (by first | rfl | exact bi_nar | decide) (Nat.zero_le _) (Nat.zero_le _) ?_
            refine ⟨?_, rfl⟩
            first
              | (rw [bi_t (show isKd c by first | exact Or.inl h3 | exact Or.inr (Or.inl h9) | exact Or.inr (Or.inr (Or.inl h15)) | exact Or.inr (Or.inr (Or.inr (Or.inl h21))) | exact Or.inr (Or.inr (Or.inr (Or.inr (Or.inl h27)))) | exact Or.inr (Or.inr (Or.inr (Or.inr (Or.inr h33)))))]; done)
              | (rw [bi_f (show ¬ isKd c from fun q => by
                  rcases q with q | q | q | q | q | q
                  · exact h3 q
                  · exact h9 q
                  · exact h15 q
                  · exact h21 q
                  · exact h27 q
                  · exact h33 q)]; done)
          · refine aw_iload0 30 dX4_isKind_30 ?_
            refine aw_bipush 31 113 dX4_isKind_31 (by decide) ?_
            refine aw_icmp_ne 33 40 dX4_isKind_33 (by decide) (fun h33 => ?_) (fun h33 => ?_)
            · refine aw_ic0 40 dX4_isKind_40 ?_
              refine aw_zret 41 dX4_isKind_41 rfl (by first | rfl | exact bi_nar | decide) (Nat.zero_le _) (Nat.zero_le _) ?_
              refine ⟨?_, rfl⟩
              first
                | (rw [bi_t (show isKd c by first | exact Or.inl h3 | exact Or.inr (Or.inl h9) | exact Or.inr (Or.inr (Or.inl h15)) | exact Or.inr (Or.inr (Or.inr (Or.inl h21))) | exact Or.inr (Or.inr (Or.inr (Or.inr (Or.inl h27)))) | exact Or.inr (Or.inr (Or.inr (Or.inr (Or.inr h33)))))]; done)
                | (rw [bi_f (show ¬ isKd c from fun q => by
                    rcases q with q | q | q | q | q | q
                    · exact h3 q
                    · exact h9 q
                    · exact h15 q
                    · exact h21 q
                    · exact h27 q
                    · exact h33 q)]; done)
            · refine aw_ic1 36 dX4_isKind_36 ?_
              refine aw_goto 37 41 dX4_isKind_37 (by decide) ?_
              refine aw_zret 41 dX4_isKind_41 rfl (by first | rfl | exact bi_nar | decide) (Nat.zero_le _) (Nat.zero_le _) ?_
              refine ⟨?_, rfl⟩
              first
                | (rw [bi_t (show isKd c by first | exact Or.inl h3 | exact Or.inr (Or.inl h9) | exact Or.inr (Or.inr (Or.inl h15)) | exact Or.inr (Or.inr (Or.inr (Or.inl h21))) | exact Or.inr (Or.inr (Or.inr (Or.inr (Or.inl h27)))) | exact Or.inr (Or.inr (Or.inr (Or.inr (Or.inr h33)))))]; done)
                | (rw [bi_f (show ¬ isKd c from fun q => by
                    rcases q with q | q | q | q | q | q
                    · exact h3 q
                    · exact h9 q
                    · exact h15 q
                    · exact h21 q
                    · exact h27 q
                    · exact h33 q)]; done)

/-- so many digits at most, read from a place on: how many, the number -/
def dg (t : Nat → Int32) (n : Nat) : Nat → Nat → Nat → Nat × Nat
  | 0, _, v => (0, v)
  | m + 1, i, v => if isD t n i then ((dg t n m (i + 1) (10 * v + dv t i)).1 + 1, (dg t n m (i + 1) (10 * v + dv t i)).2) else (0, v)
theorem dg_n {t : Nat → Int32} {n m i v : Nat} (h : ¬ isD t n i) : dg t n m i v = (0, v) := by
  cases m with
  | zero => rfl
  | succ m => exact if_neg h
theorem dg_d {t : Nat → Int32} {n m i v : Nat} (h : isD t n i) (hm : 0 < m) : dg t n m i v = ((dg t n (m - 1) (i + 1) (10 * v + dv t i)).1 + 1, (dg t n (m - 1) (i + 1) (10 * v + dv t i)).2) := by
  cases m with
  | zero => omega
  | succ m => exact if_pos h
theorem dg_le (t : Nat → Int32) (n : Nat) : ∀ m i v, (dg t n m i v).1 ≤ m := by
  intro m
  induction m with
  | zero => intro i v; exact Nat.le_refl _
  | succ m ih =>
    intro i v
    by_cases h : isD t n i
    · rw [dg_d h (by omega)]
      have := ih (i + 1) (10 * v + dv t i)
      rw [Nat.add_sub_cancel]
      show _ + 1 ≤ m + 1
      omega
    · rw [dg_n h]; exact Nat.zero_le _
theorem dg_in (t : Nat → Int32) (n : Nat) : ∀ m i v, i ≤ n → i + (dg t n m i v).1 ≤ n := by
  intro m
  induction m with
  | zero => intro i v h; exact h
  | succ m ih =>
    intro i v hi
    by_cases h : isD t n i
    · rw [dg_d h (by omega)]
      have := ih (i + 1) (10 * v + dv t i) h.1
      rw [Nat.add_sub_cancel]
      show i + (_ + 1) ≤ n
      omega
    · rw [dg_n h]; exact hi
theorem cd_lt {t : Nat → Int32} {n i : Nat} {x : Int32} (h : cdA t n i < x) (hx : irg x 1 50) : ¬ (isD t n i ∧ x ≤ t i) := by
  intro q
  unfold cdA at h
  rw [if_pos q.1.1] at h
  exact absurd q.2 (Int32.not_le.mpr h)
theorem cd_D {t : Nat → Int32} {n i : Nat} (h1 : ¬ cdA t n i < 48) (h2 : ¬ 57 < cdA t n i) : isD t n i := by
  unfold cdA at h1 h2
  by_cases h : i < n
  · rw [if_pos h] at h1 h2
    refine ⟨h, ?_, ?_⟩
    · have := Int32.not_lt.mp h1
      rw [Int32.le_iff_toInt_le, show (48 : Int32).toInt = 48 by decide] at this
      exact this
    · have := Int32.not_lt.mp h2
      rw [Int32.le_iff_toInt_le, show (57 : Int32).toInt = 57 by decide] at this
      exact this
  · rw [if_neg h] at h1
    exact absurd (by decide) h1
theorem cd_n1 {t : Nat → Int32} {n i : Nat} (h : cdA t n i < 48) : ¬ isD t n i := by
  intro q
  unfold cdA at h
  rw [if_pos q.1, Int32.lt_iff_toInt_lt, show (48 : Int32).toInt = 48 by decide] at h
  have := q.2.1
  omega
theorem cd_n2 {t : Nat → Int32} {n i : Nat} (h : 57 < cdA t n i) : ¬ isD t n i := by
  intro q
  unfold cdA at h
  rw [if_pos q.1, Int32.lt_iff_toInt_lt, show (57 : Int32).toInt = 57 by decide] at h
  have := q.2.2
  omega
theorem cd_v {t : Nat → Int32} {n i : Nat} (h : isD t n i) : cdA t n i = nI (48 + dv t i) := by
  unfold cdA
  rw [if_pos h.1]
  exact (isD_v h).2.1
theorem rv_eq {M : Mem} {c l i j : Nat} {t : Nat → Int32} (h : RV M c l i t) (e : i = j) : RV M c l j t := e ▸ h

def rmX4_readDigits : Room := { frames := 1, cells := 0, slots := 0, locals := 20 }
set_option maxHeartbeats 4000000 in
set_option maxRecDepth 100000 in
theorem c_X4_readDigits {M0 : Mem} {c l i v m : Nat} {t : Nat → Int32} (hV : RV M0 c l i t) (hU : M0.2.2 9 5 = .int (nI v)) (hl : l ≤ 60) (hi : i ≤ l) (hm : m ≤ 4) : AP mX4_readDigits rmX4_readDigits [.ref 9, .int (nI m)] M0 (some (.int (nI (dg t l m i v).1))) (fun M => Wd 9 M0 M ∧ RV M c l (i + (dg t l m i v).1) t ∧ M.2.2 9 5 = .int (nI (dg t l m i v).2)) := by
  refine am_of rfl rfl (ls := [some (.ref 9), some (.int (nI m)), none]) rfl ?_
  suffices HH : ∀ M, (RV M c l i t) → (M.2.2 9 5 = .int (nI v)) → (Wd 9 M0 M) → AW mX4_readDigits rmX4_readDigits (fun r' M' => r' = (some (.int (nI (dg t l m i v).1))) ∧ (fun M => Wd 9 M0 M ∧ RV M c l (i + (dg t l m i v).1) t ∧ M.2.2 9 5 = .int (nI (dg t l m i v).2)) M') 0 [some (.ref 9), some (.int (nI m)), none] [] M 0 0 from HH M0 hV hU (Wd.rf _ M0)
  intro M hV hU hW
  refine aw_ic0 0 dX4_readDigits_0 ?_
  refine aw_istore2 1 dX4_readDigits_1 rfl ?_
  have LP2 : ∀ (dd : Nat) (k j u : Nat) (M : Mem), m - k = dd → (k ≤ m) → (j = i + k) → (j ≤ l) → (RV M c l j t) → (M.2.2 9 5 = .int (nI u)) → (Wd 9 M0 M) → (dg t l m i v = ((dg t l (m - k) j u).1 + k, (dg t l (m - k) j u).2)) → AW mX4_readDigits rmX4_readDigits (fun r' M' => r' = (some (.int (nI (dg t l m i v).1))) ∧ (fun M => Wd 9 M0 M ∧ RV M c l (i + (dg t l m i v).1) t ∧ M.2.2 9 5 = .int (nI (dg t l m i v).2)) M') 2 [some (.ref 9), some (.int (nI m)), some (.int (nI k))] [] M 0 0 := by
    intro dd
    induction dd using Nat.strongRecOn with
    | _ dd ih2 =>
      intro k j u M hdd hk hj hjl hV hU hW hq
      refine aw_iload2 2 dX4_readDigits_2 ?_
      refine aw_iload1 3 dX4_readDigits_3 ?_
      refine aw_icmp_geN 4 60 (k) (m) dX4_readDigits_4 (by decide) rfl rfl (by omega) (by omega) (fun h4 => ?_) (fun h4 => ?_)
      · have he : dg t l m i v = (k, u) := by rw [hq, show m - k = 0 by omega]; exact Prod.ext (by show 0 + k = k; omega) rfl
        refine aw_iload2 60 dX4_readDigits_60 ?_
        refine aw_iret 61 dX4_readDigits_61 rfl (Nat.zero_le _) (Nat.zero_le _) ?_
        rw [he]
        exact ⟨rfl, hW, rv_eq hV hj, hU⟩
      · refine aw_aload0 7 dX4_readDigits_7 ?_
        refine cr_v1 8 dX4_readDigits_8 (c_X4_code hV (by omega) (by omega)) ckV_RX4_45 cd_X4_code hV.1.1 vc4 rfl rfl (Nat.le_of_ble_eq_true rfl) ⟨⟨by decide, by decide⟩, by decide, by decide⟩ rfl ?_
        refine aw_bipush 11 48 dX4_readDigits_11 (by decide) ?_
        refine aw_icmp_lt 13 60 dX4_readDigits_13 (by decide) (fun h13 => ?_) (fun h13 => ?_)
        · have he : dg t l m i v = (k, u) := by rw [hq, dg_n (cd_n1 h13)]; exact Prod.ext (by show 0 + k = k; omega) rfl
          refine aw_iload2 60 dX4_readDigits_60 ?_
          refine aw_iret 61 dX4_readDigits_61 rfl (Nat.zero_le _) (Nat.zero_le _) ?_
          rw [he]
          exact ⟨rfl, hW, rv_eq hV hj, hU⟩
        · refine aw_aload0 16 dX4_readDigits_16 ?_
          refine cr_v1 17 dX4_readDigits_17 (c_X4_code hV (by omega) (by omega)) ckV_RX4_45 cd_X4_code hV.1.1 vc4 rfl rfl (Nat.le_of_ble_eq_true rfl) ⟨⟨by decide, by decide⟩, by decide, by decide⟩ rfl ?_
          refine aw_bipush 20 57 dX4_readDigits_20 (by decide) ?_
          refine aw_icmp_gt 22 60 dX4_readDigits_22 (by decide) (fun h22 => ?_) (fun h22 => ?_)
          · have he : dg t l m i v = (k, u) := by rw [hq, dg_n (cd_n2 h22)]; exact Prod.ext (by show 0 + k = k; omega) rfl
            refine aw_iload2 60 dX4_readDigits_60 ?_
            refine aw_iret 61 dX4_readDigits_61 rfl (Nat.zero_le _) (Nat.zero_le _) ?_
            rw [he]
            exact ⟨rfl, hW, rv_eq hV hj, hU⟩
          · have hD := cd_D h13 h22
            have hDv := isD_v hD
            refine aw_aload0 25 dX4_readDigits_25 ?_
            refine aw_bipush 26 10 dX4_readDigits_26 (by decide) ?_
            refine aw_aload0 28 dX4_readDigits_28 ?_
            refine aw_get 29 dX4_readDigits_29 ckF_RX4_56_4 hV.1.1 hU ?_
            refine aw_imulN 32 (10) (u) dX4_readDigits_32 rfl rfl ?_
            refine aw_aload0 33 dX4_readDigits_33 ?_
            refine cr_v1 34 dX4_readDigits_34 (c_X4_code hV (by omega) (by omega)) ckV_RX4_45 cd_X4_code hV.1.1 vc4 rfl rfl (Nat.le_of_ble_eq_true rfl) ⟨⟨by decide, by decide⟩, by decide, by decide⟩ rfl ?_
            refine aw_topi (w := nI (48 + dv t j)) (cd_v hD) ?_
            refine aw_iaddN 37 (10 * u) (48 + dv t j) dX4_readDigits_37 rfl rfl ?_
            refine aw_bipush 38 48 dX4_readDigits_38 (by decide) ?_
            refine aw_isubN 40 ((10 * u) + (48 + dv t j)) (48) dX4_readDigits_40 rfl rfl (by omega) ?_
            refine aw_topi (w := nI (10 * u + dv t j)) (congrArg nI (by omega)) ?_
            refine fp_put 41 dX4_readDigits_41 ckF_RX4_56_4 ckP4_5 hV.1.1 rfl rfl (fun M hd => ?_)
            replace hV := hV.num hd
            have hU := hd.2.2.1
            replace hW := hW.trans hd.toWd
            clear hd
            refine aw_aload0 44 dX4_readDigits_44 ?_
            refine aw_dup 45 dX4_readDigits_45 rfl ?_
            refine aw_get 46 dX4_readDigits_46 ckF_RX4_42_4 hV.1.1 hV.2.2.2.1 ?_
            refine aw_ic1 49 dX4_readDigits_49 ?_
            refine aw_iaddN 50 (j) (1) dX4_readDigits_50 rfl rfl ?_
            refine fp_put 51 dX4_readDigits_51 ckF_RX4_42_4 ckP4_4 hV.1.1 rfl rfl (fun M hd => ?_)
            replace hV := hV.at hd
            replace hU := (hd.2.2.2 9 5 (by decide)).trans hU
            replace hW := hW.trans hd.toWd
            clear hd
            refine aw_iinc2 54 (nI (k + 1)) dX4_readDigits_54 (nI_1 _) rfl ?_
            refine aw_goto 57 2 dX4_readDigits_57 (by decide) ?_
            exact ih2 _ (by omega) (k + 1) (j + 1) (10 * u + dv t j) M rfl (by omega) (by omega) hD.1 hV hU hW (by rw [hq, dg_d hD (by omega), show m - (k + 1) = m - k - 1 by omega]; exact Prod.ext (by show _ + 1 + k = _ + (k + 1); omega) rfl)
  exact LP2 _ 0 i v M rfl (by omega) rfl hi hV hU hW rfl

theorem dg2 {t : Nat → Int32} {n i v : Nat} : dg t n 2 i v = if isD t n i then ((dg t n 1 (i + 1) (10 * v + dv t i)).1 + 1, (dg t n 1 (i + 1) (10 * v + dv t i)).2) else (0, v) := rfl
theorem dg1 {t : Nat → Int32} {n i v : Nat} : dg t n 1 i v = if isD t n i then (1, 10 * v + dv t i) else (0, v) := rfl
theorem dg3 {t : Nat → Int32} {n i v : Nat} : dg t n 3 i v = if isD t n i then ((dg t n 2 (i + 1) (10 * v + dv t i)).1 + 1, (dg t n 2 (i + 1) (10 * v + dv t i)).2) else (0, v) := rfl
theorem dg4 {t : Nat → Int32} {n i v : Nat} : dg t n 4 i v = if isD t n i then ((dg t n 3 (i + 1) (10 * v + dv t i)).1 + 1, (dg t n 3 (i + 1) (10 * v + dv t i)).2) else (0, v) := rfl
/-- two digits as the document's number has them -/
theorem rdN_2 {t : Nat → Int32} {n i : Nat} {c : Int32} (hc : c = 108 ∨ c = 109) : (dg t n 2 i 0).2 ≤ 99 ∧ rdN t n c i = if (dg t n 2 i 0).2 = 0 then (false, i, 0) else (true, i + (dg t n 2 i 0).1, (dg t n 2 i 0).2) := by
  have e1 : ¬ (c = 99 ∨ c = 98) := by rcases hc with rfl | rfl <;> decide
  have e2 : ¬ c = 116 := by rcases hc with rfl | rfl <;> decide
  have e3 : ¬ c = 113 := by rcases hc with rfl | rfl <;> decide
  unfold rdN
  rw [if_neg e1, if_neg e2, if_neg e3, dg2]
  by_cases h0 : isD t n i
  · have d0 := (isD_v h0).1
    rw [if_pos h0, if_neg (nn h0), dg1]
    by_cases h1 : isD t n (i + 1)
    · have d1 := (isD_v h1).1
      rw [if_pos h1, if_neg (nn h1)]
      show 10 * (10 * 0 + dv t i) + dv t (i + 1) ≤ 99 ∧ _ = if 10 * (10 * 0 + dv t i) + dv t (i + 1) = 0 then _ else (true, i + (1 + 1), 10 * (10 * 0 + dv t i) + dv t (i + 1))
      rw [show 10 * 0 + dv t i = dv t i by omega]
      exact ⟨by omega, rfl⟩
    · rw [if_neg h1, if_pos h1]
      show 10 * 0 + dv t i ≤ 99 ∧ _ = if 10 * 0 + dv t i = 0 then _ else (true, i + (0 + 1), 10 * 0 + dv t i)
      rw [show 10 * 0 + dv t i = dv t i by omega]
      exact ⟨by omega, rfl⟩
  · rw [if_neg h0, if_pos h0]
    exact ⟨Nat.zero_le _, rfl⟩
theorem rdN_4 {t : Nat → Int32} {n i : Nat} {c : Int32} (hc : c = 99 ∨ c = 98) : rdN t n c i = if (dg t n 4 i 0).1 = 4 then (true, i + 4, (dg t n 4 i 0).2) else (false, i + (dg t n 4 i 0).1, 0) := by
  unfold rdN
  rw [if_pos hc, dg4]
  by_cases h0 : isD t n i
  · rw [if_pos h0, if_neg (nn h0), dg3]
    by_cases h1 : isD t n (i + 1)
    · rw [if_pos h1, if_neg (nn h1), dg2]
      by_cases h2 : isD t n (i + 1 + 1)
      · rw [if_pos h2, if_neg (nn h2), dg1]
        by_cases h3 : isD t n (i + 1 + 1 + 1)
        · rw [if_pos h3, if_neg (nn h3)]
          show _ = (true, i + 4, 10 * (10 * (10 * (10 * 0 + dv t i) + dv t (i + 1)) + dv t (i + 1 + 1)) + dv t (i + 1 + 1 + 1))
          exact Prod.ext rfl (Prod.ext rfl (by show 1000 * dv t i + 100 * dv t (i + 1) + 10 * dv t (i + 2) + dv t (i + 3) = 10 * (10 * (10 * (10 * 0 + dv t i) + dv t (i + 2 - 1)) + dv t (i + 2)) + dv t (i + 3); rw [show i + 2 - 1 = i + 1 by omega]; omega))
        · rw [if_neg h3, if_pos h3]; rfl
      · rw [if_neg h2, if_pos h2]; rfl
    · rw [if_neg h1, if_pos h1]; rfl
  · rw [if_neg h0, if_pos h0]; rfl
theorem rdN_1 {t : Nat → Int32} {n i : Nat} : rdN t n 113 i = if isD t n i ∧ 2 ≤ dv t i then (true, i + 1, dv t i) else (false, i, 0) := rfl

def rmX4_readShift : Room := { frames := 2, cells := 0, slots := 0, locals := 42 }
set_option maxHeartbeats 4000000 in
set_option maxRecDepth 100000 in
theorem c_X4_readShift {M0 : Mem} {c l i : Nat} {t : Nat → Int32} (hV : RV M0 c l i t) (hU : M0.2.2 9 5 = .int (nI 0)) (hl : l ≤ 60) (hi : i ≤ l) : AP mX4_readShift rmX4_readShift [.ref 9] M0 (some (.int (bi (0 < (dg t l 2 i 0).2)))) (fun M => Wd 9 M0 M ∧ RV M c l (if (dg t l 2 i 0).2 = 0 then i else i + (dg t l 2 i 0).1) t ∧ M.2.2 9 5 = .int (nI (dg t l 2 i 0).2)) := by
  refine am_of rfl rfl (ls := [some (.ref 9), none]) rfl ?_
  suffices HH : ∀ M, (RV M c l i t) → (M.2.2 9 5 = .int (nI 0)) → (Wd 9 M0 M) → AW mX4_readShift rmX4_readShift (fun r' M' => r' = (some (.int (bi (0 < (dg t l 2 i 0).2)))) ∧ (fun M => Wd 9 M0 M ∧ RV M c l (if (dg t l 2 i 0).2 = 0 then i else i + (dg t l 2 i 0).1) t ∧ M.2.2 9 5 = .int (nI (dg t l 2 i 0).2)) M') 0 [some (.ref 9), none] [] M 0 0 from HH M0 hV hU (Wd.rf _ M0)
  intro M hV hU hW
  have hle := dg_le t l 2 i 0
  have h99 := (rdN_2 (t := t) (n := l) (i := i) (c := 108) (Or.inl rfl)).1
  refine aw_aload0 0 dX4_readShift_0 ?_
  refine aw_ic2 1 dX4_readShift_1 ?_
  refine ap_v1 2 dX4_readShift_2 (c_X4_readDigits hV hU hl hi (by decide)) ckV_RX4_59 cd_X4_readDigits hV.1.1 vc4 rfl rfl (Nat.le_of_ble_eq_true rfl) ⟨⟨by decide, by decide⟩, by decide, by decide⟩ rfl (fun M hq => ?_)
  replace hV := hq.2.1
  replace hU := hq.2.2
  replace hW := hW.trans hq.1
  clear hq
  refine aw_istore1 5 dX4_readShift_5 rfl ?_
  refine aw_aload0 6 dX4_readShift_6 ?_
  refine aw_get 7 dX4_readShift_7 ckF_RX4_56_4 hV.1.1 hU ?_
  refine aw_if_neN 10 23 ((dg t l 2 i 0).2) dX4_readShift_10 (by decide) rfl (by omega) (fun h10 => ?_) (fun h10 => ?_)
  · replace hV := rv_eq hV (show _ = if (dg t l 2 i 0).2 = 0 then i else i + (dg t l 2 i 0).1 from (if_neg (by omega)).symm)
    refine aw_aload0 23 dX4_readShift_23 ?_
    refine aw_get 24 dX4_readShift_24 ckF_RX4_56_4 hV.1.1 hU ?_
    refine aw_if_leN 27 34 ((dg t l 2 i 0).2) dX4_readShift_27 (by decide) rfl (by omega) (fun h27 => ?_) (fun h27 => ?_)
    · refine aw_ic0 34 dX4_readShift_34 ?_
      refine aw_zret 35 dX4_readShift_35 rfl (by first | rfl | exact bi_nar | decide) (Nat.zero_le _) (Nat.zero_le _) ?_
      refine ⟨?_, hW, hV, hU⟩
      first
        | (rw [bi_t (by omega)]; done)
        | (rw [bi_f (by omega)]; done)
        | omega
    · refine aw_ic1 30 dX4_readShift_30 ?_
      refine aw_goto 31 35 dX4_readShift_31 (by decide) ?_
      refine aw_zret 35 dX4_readShift_35 rfl (by first | rfl | exact bi_nar | decide) (Nat.zero_le _) (Nat.zero_le _) ?_
      refine ⟨?_, hW, hV, hU⟩
      first
        | (rw [bi_t (by omega)]; done)
        | (rw [bi_f (by omega)]; done)
        | omega
  · refine aw_aload0 13 dX4_readShift_13 ?_
    refine aw_dup 14 dX4_readShift_14 rfl ?_
    refine aw_get 15 dX4_readShift_15 ckF_RX4_42_4 hV.1.1 hV.2.2.2.1 ?_
    refine aw_iload1 18 dX4_readShift_18 ?_
    refine aw_isubN 19 (i + (dg t l 2 i 0).1) ((dg t l 2 i 0).1) dX4_readShift_19 rfl rfl (by omega) ?_
    refine fp_put 20 dX4_readShift_20 ckF_RX4_42_4 ckP4_4 hV.1.1 rfl rfl (fun M hd => ?_)
    replace hV := hV.at hd
    replace hU := (hd.2.2.2 9 5 (by decide)).trans hU
    replace hW := hW.trans hd.toWd
    clear hd
    replace hV := rv_eq hV (show _ = if (dg t l 2 i 0).2 = 0 then i else i + (dg t l 2 i 0).1 by rw [if_pos (by omega)]; omega)
    refine aw_aload0 23 dX4_readShift_23 ?_
    refine aw_get 24 dX4_readShift_24 ckF_RX4_56_4 hV.1.1 hU ?_
    refine aw_if_leN 27 34 ((dg t l 2 i 0).2) dX4_readShift_27 (by decide) rfl (by omega) (fun h27 => ?_) (fun h27 => ?_)
    · refine aw_ic0 34 dX4_readShift_34 ?_
      refine aw_zret 35 dX4_readShift_35 rfl (by first | rfl | exact bi_nar | decide) (Nat.zero_le _) (Nat.zero_le _) ?_
      refine ⟨?_, hW, hV, hU⟩
      first
        | (rw [bi_t (by omega)]; done)
        | (rw [bi_f (by omega)]; done)
        | omega
    · refine aw_ic1 30 dX4_readShift_30 ?_
      refine aw_goto 31 35 dX4_readShift_31 (by decide) ?_
      refine aw_zret 35 dX4_readShift_35 rfl (by first | rfl | exact bi_nar | decide) (Nat.zero_le _) (Nat.zero_le _) ?_
      refine ⟨?_, hW, hV, hU⟩
      first
        | (rw [bi_t (by omega)]; done)
        | (rw [bi_f (by omega)]; done)
        | omega

def rmX4_readNumber : Room := { frames := 3, cells := 0, slots := 0, locals := 63 }
def rnC (M0 : Mem) (c l : Nat) (t : Nat → Int32) (q : Bool × Nat × Nat) (M : Mem) : Prop := Wd 9 M0 M ∧ RV M c l q.2.1 t ∧ ∃ v, M.2.2 9 5 = .int (nI v) ∧ (q.1 = true → v = q.2.2)

set_option maxHeartbeats 4000000 in
set_option maxRecDepth 100000 in
theorem c99_X4_readNumber {M0 : Mem} {c l i : Nat} {t : Nat → Int32} (hV : RV M0 c l i t) (hl : l ≤ 60) (hi : i ≤ l) : AP mX4_readNumber rmX4_readNumber [.ref 9, .int 99] M0 (some (.int (bi ((rdN t l 99 i).1 = true)))) (rnC M0 c l t (rdN t l 99 i)) := by
  refine am_of rfl rfl (ls := [some (.ref 9), some (.int 99)]) rfl ?_
  suffices HH : ∀ M, (RV M c l i t) → (Wd 9 M0 M) → AW mX4_readNumber rmX4_readNumber (fun r' M' => r' = (some (.int (bi ((rdN t l 99 i).1 = true)))) ∧ (rnC M0 c l t (rdN t l 99 i)) M') 0 [some (.ref 9), some (.int 99)] [] M 0 0 from HH M0 hV (Wd.rf _ M0)
  intro M hV hW
  have hle := dg_le t l 4 i 0
  have hR := rdN_4 (t := t) (n := l) (i := i) (c := 99) (Or.inl rfl)
  refine aw_aload0 0 dX4_readNumber_0 ?_
  refine aw_ic0 1 dX4_readNumber_1 ?_
  refine fp_put 2 dX4_readNumber_2 ckF_RX4_56_4 ckP4_5 hV.1.1 rfl rfl (fun M hd => ?_)
  replace hV := hV.num hd
  have hU : M.2.2 9 5 = .int (nI 0) := hd.2.2.1
  replace hW := hW.trans hd.toWd
  clear hd
  refine aw_iload1 5 dX4_readNumber_5 ?_
  refine aw_lookup (off := 50) 6 56 dX4_readNumber_6 (by decide) (by decide) (by decide) ?_
  refine aw_aload0 56 dX4_readNumber_56 ?_
  refine aw_ic4 57 dX4_readNumber_57 ?_
  refine ap_v1 58 dX4_readNumber_58 (c_X4_readDigits hV hU hl hi (by decide)) ckV_RX4_59 cd_X4_readDigits hV.1.1 vc4 rfl rfl (Nat.le_of_ble_eq_true rfl) ⟨⟨by decide, by decide⟩, by decide, by decide⟩ rfl (fun M hq => ?_)
  refine aw_ic4 61 dX4_readNumber_61 ?_
  refine aw_icmp_neN 62 69 ((dg t l 4 i 0).1) (4) dX4_readNumber_62 (by decide) rfl rfl (by omega) (by omega) (fun h62 => ?_) (fun h62 => ?_)
  · refine aw_ic0 69 dX4_readNumber_69 ?_
    refine aw_zret 70 dX4_readNumber_70 rfl (by first | rfl | exact bi_nar | decide) (Nat.zero_le _) (Nat.zero_le _) ?_
    by_cases hz : (dg t l 4 i 0).1 = 4
    · rw [if_pos hz] at hR
      rw [hR]
      refine ⟨?_, hW.trans hq.1, rv_eq hq.2.1 (by rw [hz]), _, hq.2.2, fun _ => rfl⟩
      first
        | (rw [bi_t (by simp)]; done)
        | omega
    · rw [if_neg hz] at hR
      rw [hR]
      refine ⟨?_, hW.trans hq.1, hq.2.1, _, hq.2.2, fun z => by cases z⟩
      first
        | (rw [bi_f (by simp)]; done)
        | omega
  · refine aw_ic1 65 dX4_readNumber_65 ?_
    refine aw_goto 66 70 dX4_readNumber_66 (by decide) ?_
    refine aw_zret 70 dX4_readNumber_70 rfl (by first | rfl | exact bi_nar | decide) (Nat.zero_le _) (Nat.zero_le _) ?_
    by_cases hz : (dg t l 4 i 0).1 = 4
    · rw [if_pos hz] at hR
      rw [hR]
      refine ⟨?_, hW.trans hq.1, rv_eq hq.2.1 (by rw [hz]), _, hq.2.2, fun _ => rfl⟩
      first
        | (rw [bi_t (by simp)]; done)
        | omega
    · rw [if_neg hz] at hR
      rw [hR]
      refine ⟨?_, hW.trans hq.1, hq.2.1, _, hq.2.2, fun z => by cases z⟩
      first
        | (rw [bi_f (by simp)]; done)
        | omega

set_option maxHeartbeats 4000000 in
set_option maxRecDepth 100000 in
theorem c98_X4_readNumber {M0 : Mem} {c l i : Nat} {t : Nat → Int32} (hV : RV M0 c l i t) (hl : l ≤ 60) (hi : i ≤ l) : AP mX4_readNumber rmX4_readNumber [.ref 9, .int 98] M0 (some (.int (bi ((rdN t l 98 i).1 = true)))) (rnC M0 c l t (rdN t l 98 i)) := by
  refine am_of rfl rfl (ls := [some (.ref 9), some (.int 98)]) rfl ?_
  suffices HH : ∀ M, (RV M c l i t) → (Wd 9 M0 M) → AW mX4_readNumber rmX4_readNumber (fun r' M' => r' = (some (.int (bi ((rdN t l 98 i).1 = true)))) ∧ (rnC M0 c l t (rdN t l 98 i)) M') 0 [some (.ref 9), some (.int 98)] [] M 0 0 from HH M0 hV (Wd.rf _ M0)
  intro M hV hW
  have hle := dg_le t l 4 i 0
  have hR := rdN_4 (t := t) (n := l) (i := i) (c := 98) (Or.inr rfl)
  refine aw_aload0 0 dX4_readNumber_0 ?_
  refine aw_ic0 1 dX4_readNumber_1 ?_
  refine fp_put 2 dX4_readNumber_2 ckF_RX4_56_4 ckP4_5 hV.1.1 rfl rfl (fun M hd => ?_)
  replace hV := hV.num hd
  have hU : M.2.2 9 5 = .int (nI 0) := hd.2.2.1
  replace hW := hW.trans hd.toWd
  clear hd
  refine aw_iload1 5 dX4_readNumber_5 ?_
  refine aw_lookup (off := 50) 6 56 dX4_readNumber_6 (by decide) (by decide) (by decide) ?_
  refine aw_aload0 56 dX4_readNumber_56 ?_
  refine aw_ic4 57 dX4_readNumber_57 ?_
  refine ap_v1 58 dX4_readNumber_58 (c_X4_readDigits hV hU hl hi (by decide)) ckV_RX4_59 cd_X4_readDigits hV.1.1 vc4 rfl rfl (Nat.le_of_ble_eq_true rfl) ⟨⟨by decide, by decide⟩, by decide, by decide⟩ rfl (fun M hq => ?_)
  refine aw_ic4 61 dX4_readNumber_61 ?_
  refine aw_icmp_neN 62 69 ((dg t l 4 i 0).1) (4) dX4_readNumber_62 (by decide) rfl rfl (by omega) (by omega) (fun h62 => ?_) (fun h62 => ?_)
  · refine aw_ic0 69 dX4_readNumber_69 ?_
    refine aw_zret 70 dX4_readNumber_70 rfl (by first | rfl | exact bi_nar | decide) (Nat.zero_le _) (Nat.zero_le _) ?_
    by_cases hz : (dg t l 4 i 0).1 = 4
    · rw [if_pos hz] at hR
      rw [hR]
      refine ⟨?_, hW.trans hq.1, rv_eq hq.2.1 (by rw [hz]), _, hq.2.2, fun _ => rfl⟩
      first
        | (rw [bi_t (by simp)]; done)
        | omega
    · rw [if_neg hz] at hR
      rw [hR]
      refine ⟨?_, hW.trans hq.1, hq.2.1, _, hq.2.2, fun z => by cases z⟩
      first
        | (rw [bi_f (by simp)]; done)
        | omega
  · refine aw_ic1 65 dX4_readNumber_65 ?_
    refine aw_goto 66 70 dX4_readNumber_66 (by decide) ?_
    refine aw_zret 70 dX4_readNumber_70 rfl (by first | rfl | exact bi_nar | decide) (Nat.zero_le _) (Nat.zero_le _) ?_
    by_cases hz : (dg t l 4 i 0).1 = 4
    · rw [if_pos hz] at hR
      rw [hR]
      refine ⟨?_, hW.trans hq.1, rv_eq hq.2.1 (by rw [hz]), _, hq.2.2, fun _ => rfl⟩
      first
        | (rw [bi_t (by simp)]; done)
        | omega
    · rw [if_neg hz] at hR
      rw [hR]
      refine ⟨?_, hW.trans hq.1, hq.2.1, _, hq.2.2, fun z => by cases z⟩
      first
        | (rw [bi_f (by simp)]; done)
        | omega

set_option maxHeartbeats 4000000 in
set_option maxRecDepth 100000 in
theorem c116_X4_readNumber {M0 : Mem} {c l i : Nat} {t : Nat → Int32} (hV : RV M0 c l i t) (hl : l ≤ 60) (hi : i ≤ l) : AP mX4_readNumber rmX4_readNumber [.ref 9, .int 116] M0 (some (.int (bi ((rdN t l 116 i).1 = true)))) (rnC M0 c l t (rdN t l 116 i)) := by
  refine am_of rfl rfl (ls := [some (.ref 9), some (.int 116)]) rfl ?_
  suffices HH : ∀ M, (RV M c l i t) → (Wd 9 M0 M) → AW mX4_readNumber rmX4_readNumber (fun r' M' => r' = (some (.int (bi ((rdN t l 116 i).1 = true)))) ∧ (rnC M0 c l t (rdN t l 116 i)) M') 0 [some (.ref 9), some (.int 116)] [] M 0 0 from HH M0 hV (Wd.rf _ M0)
  intro M hV hW
  refine aw_aload0 0 dX4_readNumber_0 ?_
  refine aw_ic0 1 dX4_readNumber_1 ?_
  refine fp_put 2 dX4_readNumber_2 ckF_RX4_56_4 ckP4_5 hV.1.1 rfl rfl (fun M hd => ?_)
  replace hV := hV.num hd
  have hU : M.2.2 9 5 = .int (nI 0) := hd.2.2.1
  replace hW := hW.trans hd.toWd
  clear hd
  refine aw_iload1 5 dX4_readNumber_5 ?_
  refine aw_lookup (off := 94) 6 100 dX4_readNumber_6 (by decide) (by decide) (by decide) ?_
  refine aw_ic1 100 dX4_readNumber_100 ?_
  refine aw_zret 101 dX4_readNumber_101 rfl (by first | rfl | exact bi_nar | decide) (Nat.zero_le _) (Nat.zero_le _) ?_
  exact ⟨by rw [bi_t (show (rdN t l 116 i).1 = true from rfl)], hW, hV, 0, hU, fun _ => rfl⟩

set_option maxHeartbeats 4000000 in
set_option maxRecDepth 100000 in
theorem c108_X4_readNumber {M0 : Mem} {c l i : Nat} {t : Nat → Int32} (hV : RV M0 c l i t) (hl : l ≤ 60) (hi : i ≤ l) : AP mX4_readNumber rmX4_readNumber [.ref 9, .int 108] M0 (some (.int (bi ((rdN t l 108 i).1 = true)))) (rnC M0 c l t (rdN t l 108 i)) := by
  refine am_of rfl rfl (ls := [some (.ref 9), some (.int 108)]) rfl ?_
  suffices HH : ∀ M, (RV M c l i t) → (Wd 9 M0 M) → AW mX4_readNumber rmX4_readNumber (fun r' M' => r' = (some (.int (bi ((rdN t l 108 i).1 = true)))) ∧ (rnC M0 c l t (rdN t l 108 i)) M') 0 [some (.ref 9), some (.int 108)] [] M 0 0 from HH M0 hV (Wd.rf _ M0)
  intro M hV hW
  have hR := (rdN_2 (t := t) (n := l) (i := i) (c := 108) (Or.inl rfl)).2
  refine aw_aload0 0 dX4_readNumber_0 ?_
  refine aw_ic0 1 dX4_readNumber_1 ?_
  refine fp_put 2 dX4_readNumber_2 ckF_RX4_56_4 ckP4_5 hV.1.1 rfl rfl (fun M hd => ?_)
  replace hV := hV.num hd
  have hU : M.2.2 9 5 = .int (nI 0) := hd.2.2.1
  replace hW := hW.trans hd.toWd
  clear hd
  refine aw_iload1 5 dX4_readNumber_5 ?_
  refine aw_lookup (off := 89) 6 95 dX4_readNumber_6 (by decide) (by decide) (by decide) ?_
  refine aw_aload0 95 dX4_readNumber_95 ?_
  refine ap_v1 96 dX4_readNumber_96 (c_X4_readShift hV hU hl hi) ckV_RX4_63 cd_X4_readShift hV.1.1 vc4 rfl rfl (Nat.le_of_ble_eq_true rfl) ⟨⟨by decide, by decide⟩, by decide, by decide⟩ rfl (fun M hq => ?_)
  refine aw_zret 99 dX4_readNumber_99 rfl (by first | rfl | exact bi_nar | decide) (Nat.zero_le _) (Nat.zero_le _) ?_
  by_cases hz : (dg t l 2 i 0).2 = 0
  · rw [if_pos hz] at hR hq
    rw [hR, bi_f (by omega)]
    exact ⟨by rw [bi_f (by simp)], hW.trans hq.1, hq.2.1, _, hq.2.2, fun z => by cases z⟩
  · rw [if_neg hz] at hR hq
    rw [hR, bi_t (by omega)]
    exact ⟨by rw [bi_t rfl], hW.trans hq.1, hq.2.1, _, hq.2.2, fun _ => rfl⟩

set_option maxHeartbeats 4000000 in
set_option maxRecDepth 100000 in
theorem c109_X4_readNumber {M0 : Mem} {c l i : Nat} {t : Nat → Int32} (hV : RV M0 c l i t) (hl : l ≤ 60) (hi : i ≤ l) : AP mX4_readNumber rmX4_readNumber [.ref 9, .int 109] M0 (some (.int (bi ((rdN t l 109 i).1 = true)))) (rnC M0 c l t (rdN t l 109 i)) := by
  refine am_of rfl rfl (ls := [some (.ref 9), some (.int 109)]) rfl ?_
  suffices HH : ∀ M, (RV M c l i t) → (Wd 9 M0 M) → AW mX4_readNumber rmX4_readNumber (fun r' M' => r' = (some (.int (bi ((rdN t l 109 i).1 = true)))) ∧ (rnC M0 c l t (rdN t l 109 i)) M') 0 [some (.ref 9), some (.int 109)] [] M 0 0 from HH M0 hV (Wd.rf _ M0)
  intro M hV hW
  have hR := (rdN_2 (t := t) (n := l) (i := i) (c := 109) (Or.inr rfl)).2
  refine aw_aload0 0 dX4_readNumber_0 ?_
  refine aw_ic0 1 dX4_readNumber_1 ?_
  refine fp_put 2 dX4_readNumber_2 ckF_RX4_56_4 ckP4_5 hV.1.1 rfl rfl (fun M hd => ?_)
  replace hV := hV.num hd
  have hU : M.2.2 9 5 = .int (nI 0) := hd.2.2.1
  replace hW := hW.trans hd.toWd
  clear hd
  refine aw_iload1 5 dX4_readNumber_5 ?_
  refine aw_lookup (off := 89) 6 95 dX4_readNumber_6 (by decide) (by decide) (by decide) ?_
  refine aw_aload0 95 dX4_readNumber_95 ?_
  refine ap_v1 96 dX4_readNumber_96 (c_X4_readShift hV hU hl hi) ckV_RX4_63 cd_X4_readShift hV.1.1 vc4 rfl rfl (Nat.le_of_ble_eq_true rfl) ⟨⟨by decide, by decide⟩, by decide, by decide⟩ rfl (fun M hq => ?_)
  refine aw_zret 99 dX4_readNumber_99 rfl (by first | rfl | exact bi_nar | decide) (Nat.zero_le _) (Nat.zero_le _) ?_
  by_cases hz : (dg t l 2 i 0).2 = 0
  · rw [if_pos hz] at hR hq
    rw [hR, bi_f (by omega)]
    exact ⟨by rw [bi_f (by simp)], hW.trans hq.1, hq.2.1, _, hq.2.2, fun z => by cases z⟩
  · rw [if_neg hz] at hR hq
    rw [hR, bi_t (by omega)]
    exact ⟨by rw [bi_t rfl], hW.trans hq.1, hq.2.1, _, hq.2.2, fun _ => rfl⟩

theorem cd50 {t : Nat → Int32} {n i : Nat} (h : isD t n i) : cdA t n i < 50 ↔ dv t i < 2 := by
  have := isD_v h
  rw [cd_v h, show (50 : Int32) = nI 50 from rfl, nI_ltE (by omega) (by omega)]
  omega

set_option maxHeartbeats 4000000 in
set_option maxRecDepth 100000 in
theorem c113_X4_readNumber {M0 : Mem} {c l i : Nat} {t : Nat → Int32} (hV : RV M0 c l i t) (hl : l ≤ 60) (hi : i ≤ l) : AP mX4_readNumber rmX4_readNumber [.ref 9, .int 113] M0 (some (.int (bi ((rdN t l 113 i).1 = true)))) (rnC M0 c l t (rdN t l 113 i)) := by
  refine am_of rfl rfl (ls := [some (.ref 9), some (.int 113)]) rfl ?_
  suffices HH : ∀ M, (RV M c l i t) → (Wd 9 M0 M) → AW mX4_readNumber rmX4_readNumber (fun r' M' => r' = (some (.int (bi ((rdN t l 113 i).1 = true)))) ∧ (rnC M0 c l t (rdN t l 113 i)) M') 0 [some (.ref 9), some (.int 113)] [] M 0 0 from HH M0 hV (Wd.rf _ M0)
  intro M hV hW
  have hle := dg_le t l 1 i 0
  have hR := rdN_1 (t := t) (n := l) (i := i)
  have h1 := dg1 (t := t) (n := l) (i := i) (v := 0)
  refine aw_aload0 0 dX4_readNumber_0 ?_
  refine aw_ic0 1 dX4_readNumber_1 ?_
  refine fp_put 2 dX4_readNumber_2 ckF_RX4_56_4 ckP4_5 hV.1.1 rfl rfl (fun M hd => ?_)
  replace hV := hV.num hd
  have hU : M.2.2 9 5 = .int (nI 0) := hd.2.2.1
  replace hW := hW.trans hd.toWd
  clear hd
  refine aw_iload1 5 dX4_readNumber_5 ?_
  refine aw_lookup (off := 65) 6 71 dX4_readNumber_6 (by decide) (by decide) (by decide) ?_
  refine aw_aload0 71 dX4_readNumber_71 ?_
  refine cr_v1 72 dX4_readNumber_72 (c_X4_code hV (by omega) (by omega)) ckV_RX4_45 cd_X4_code hV.1.1 vc4 rfl rfl (Nat.le_of_ble_eq_true rfl) ⟨⟨by decide, by decide⟩, by decide, by decide⟩ rfl ?_
  refine aw_bipush 75 50 dX4_readNumber_75 (by decide) ?_
  refine aw_icmp_lt 77 93 dX4_readNumber_77 (by decide) (fun h77 => ?_) (fun h77 => ?_)
  · refine aw_ic0 93 dX4_readNumber_93 ?_
    refine aw_zret 94 dX4_readNumber_94 rfl (by first | rfl | exact bi_nar | decide) (Nat.zero_le _) (Nat.zero_le _) ?_
    by_cases hz : isD t l i
    · have h50 := cd50 hz
      rw [if_pos hz] at h1
      first
        | (rw [h1] at hq; rw [if_pos ⟨hz, by have := mt h50.mpr h77; omega⟩] at hR; rw [hR]; refine ⟨?_, hW.trans hq.1, hq.2.1, _, hq.2.2, fun _ => by show 10 * 0 + dv t i = dv t i; omega⟩; rw [bi_t (by simp)]; done)
        | (rw [h1] at h86; exact absurd rfl h86)
        | (rw [if_neg (fun q => absurd q.2 (by have := h50.mp h77; omega))] at hR; rw [hR]; refine ⟨?_, hW, hV, _, hU, fun z => by cases z⟩; rw [bi_f (by simp)]; done)
    · rw [if_neg (fun q => hz q.1)] at hR
      rw [if_neg hz] at h1
      rw [hR]
      first
        | (rw [h1] at h86; exact absurd h86 (by decide))
        | (rw [h1] at hq; refine ⟨?_, hW.trans hq.1, hq.2.1, _, hq.2.2, fun z => by cases z⟩; rw [bi_f (by simp)]; done)
        | (refine ⟨?_, hW, hV, _, hU, fun z => by cases z⟩; rw [bi_f (by simp)]; done)
  · refine aw_aload0 80 dX4_readNumber_80 ?_
    refine aw_ic1 81 dX4_readNumber_81 ?_
    refine ap_v1 82 dX4_readNumber_82 (c_X4_readDigits hV hU hl hi (by decide)) ckV_RX4_59 cd_X4_readDigits hV.1.1 vc4 rfl rfl (Nat.le_of_ble_eq_true rfl) ⟨⟨by decide, by decide⟩, by decide, by decide⟩ rfl (fun M hq => ?_)
    refine aw_ic1 85 dX4_readNumber_85 ?_
    refine aw_icmp_neN 86 93 ((dg t l 1 i 0).1) (1) dX4_readNumber_86 (by decide) rfl rfl (by omega) (by omega) (fun h86 => ?_) (fun h86 => ?_)
    · refine aw_ic0 93 dX4_readNumber_93 ?_
      refine aw_zret 94 dX4_readNumber_94 rfl (by first | rfl | exact bi_nar | decide) (Nat.zero_le _) (Nat.zero_le _) ?_
      by_cases hz : isD t l i
      · have h50 := cd50 hz
        rw [if_pos hz] at h1
        first
          | (rw [h1] at hq; rw [if_pos ⟨hz, by have := mt h50.mpr h77; omega⟩] at hR; rw [hR]; refine ⟨?_, hW.trans hq.1, hq.2.1, _, hq.2.2, fun _ => by show 10 * 0 + dv t i = dv t i; omega⟩; rw [bi_t (by simp)]; done)
          | (rw [h1] at h86; exact absurd rfl h86)
          | (rw [if_neg (fun q => absurd q.2 (by have := h50.mp h77; omega))] at hR; rw [hR]; refine ⟨?_, hW, hV, _, hU, fun z => by cases z⟩; rw [bi_f (by simp)]; done)
      · rw [if_neg (fun q => hz q.1)] at hR
        rw [if_neg hz] at h1
        rw [hR]
        first
          | (rw [h1] at h86; exact absurd h86 (by decide))
          | (rw [h1] at hq; refine ⟨?_, hW.trans hq.1, hq.2.1, _, hq.2.2, fun z => by cases z⟩; rw [bi_f (by simp)]; done)
          | (refine ⟨?_, hW, hV, _, hU, fun z => by cases z⟩; rw [bi_f (by simp)]; done)
    · refine aw_ic1 89 dX4_readNumber_89 ?_
      refine aw_goto 90 94 dX4_readNumber_90 (by decide) ?_
      refine aw_zret 94 dX4_readNumber_94 rfl (by first | rfl | exact bi_nar | decide) (Nat.zero_le _) (Nat.zero_le _) ?_
      by_cases hz : isD t l i
      · have h50 := cd50 hz
        rw [if_pos hz] at h1
        first
          | (rw [h1] at hq; rw [if_pos ⟨hz, by have := mt h50.mpr h77; omega⟩] at hR; rw [hR]; refine ⟨?_, hW.trans hq.1, hq.2.1, _, hq.2.2, fun _ => by show 10 * 0 + dv t i = dv t i; omega⟩; rw [bi_t (by simp)]; done)
          | (rw [h1] at h86; exact absurd rfl h86)
          | (rw [if_neg (fun q => absurd q.2 (by have := h50.mp h77; omega))] at hR; rw [hR]; refine ⟨?_, hW, hV, _, hU, fun z => by cases z⟩; rw [bi_f (by simp)]; done)
      · rw [if_neg (fun q => hz q.1)] at hR
        rw [if_neg hz] at h1
        rw [hR]
        first
          | (rw [h1] at h86; exact absurd h86 (by decide))
          | (rw [h1] at hq; refine ⟨?_, hW.trans hq.1, hq.2.1, _, hq.2.2, fun z => by cases z⟩; rw [bi_f (by simp)]; done)
          | (refine ⟨?_, hW, hV, _, hU, fun z => by cases z⟩; rw [bi_f (by simp)]; done)

theorem c_X4_readNumber {M0 : Mem} {c l i : Nat} {t : Nat → Int32} {z : Int32} (hz : isKd z) (hV : RV M0 c l i t) (hl : l ≤ 60) (hi : i ≤ l) : AP mX4_readNumber rmX4_readNumber [.ref 9, .int z] M0 (some (.int (bi ((rdN t l z i).1 = true)))) (rnC M0 c l t (rdN t l z i)) := by
  rcases hz with rfl | rfl | rfl | rfl | rfl | rfl
  · exact c99_X4_readNumber hV hl hi
  · exact c98_X4_readNumber hV hl hi
  · exact c116_X4_readNumber hV hl hi
  · exact c108_X4_readNumber hV hl hi
  · exact c109_X4_readNumber hV hl hi
  · exact c113_X4_readNumber hV hl hi

abbrev SR (b : Nat) : Prop := b = 9 ∨ b = 10 ∨ b = 11
/-- what the reader holds of whole acts -/
def RDK (M : Mem) (l : List (Int32 × Nat)) : Prop := M.2.2 9 1 = .int (nI l.length) ∧ l.length ≤ 5 ∧ KA M 10 l

def rmX4_read : Room := { frames := 4, cells := 0, slots := 0, locals := 84 }
set_option maxHeartbeats 4000000 in
set_option maxRecDepth 100000 in
theorem c_X4_read {M0 : Mem} {s L i0 n : Nat} {hr lane : Int32} {t cc : Nat → Int32} (hR : RK M0) (hSV : SV M0 s hr lane (nI L) cc) (hL : L ≤ 60) (hn : i0 + n ≤ L) (hs : 17 ≤ s) (ht : ∀ j, j < n → t j = cc (i0 + j)) : AP mX4_read rmX4_read [.ref 9, .ref s, .int (nI i0), .int (nI n)] M0 (some (.int (raR (rdA t n 5 0 [])))) (fun M => FrS SR M0 M ∧ RK M ∧ ∀ l, rdA t n 5 0 [] = .inr l → RDK M l) := by
  refine am_of rfl rfl (ls := [some (.ref 9), some (.ref s), some (.int (nI i0)), some (.int (nI n)), none]) rfl ?_
  suffices HH : ∀ M, (RK M) → (SV M s hr lane (nI L) cc) → (FrS SR M0 M) → AW mX4_read rmX4_read (fun r' M' => r' = (some (.int (raR (rdA t n 5 0 [])))) ∧ (fun M => FrS SR M0 M ∧ RK M ∧ ∀ l, rdA t n 5 0 [] = .inr l → RDK M l) M') 0 [some (.ref 9), some (.ref s), some (.int (nI i0)), some (.int (nI n)), none] [] M 0 0 from HH M0 hR hSV (FrS.rf _ M0)
  intro M hR hSV hS
  refine aw_aload1 0 dX4_read_0 ?_
  refine aw_get 1 dX4_read_1 ckF_RX4_28_5 hSV.1 hSV.2.1 ?_
  refine aw_iload2 4 dX4_read_4 ?_
  refine aw_aload0 5 dX4_read_5 ?_
  refine aw_get 6 dX4_read_6 ckF_RX4_15_4 hR.1 hR.2.2.1 ?_
  refine aw_ic0 9 dX4_read_9 ?_
  refine aw_iload3 10 dX4_read_10 ?_
  refine aw_copy 11 (i0) (0) (n) dX4_read_11 ckY_RX4_33 hSV.2.2.2.2.2.1 hR.2.2.2.2 (by omega) (by decide) rfl rfl rfl (by omega) (by omega) (by decide) (by decide) (fun i hi => ⟨_, hSV.2.2.2.2.2.2 _ (by omega)⟩) (Nat.le_of_ble_eq_true rfl) (by decide) (by decide) ?_
  have hwd : Wd 11 M (wa M 11 (cpV (M.2.2 (s + 1)) (M.2.2 11) i0 0 n)) := ⟨rfl, rfl, fun c hc => if_neg hc⟩
  have hcs : ∀ k, k < n → (wa M 11 (cpV (M.2.2 (s + 1)) (M.2.2 11) i0 0 n)).2.2 11 k = .int (t k) := fun k hk => by
    show (if 11 = 11 then cpV (M.2.2 (s + 1)) (M.2.2 11) i0 0 n else M.2.2 11) k = _
    rw [if_pos rfl]
    unfold cpV
    rw [if_pos (by omega), show i0 + (k - 0) = i0 + k by omega, ht k hk]
    exact hSV.2.2.2.2.2.2 _ (by omega)
  generalize wa M 11 (cpV (M.2.2 (s + 1)) (M.2.2 11) i0 0 n) = M1 at hwd hcs ⊢
  replace hS := hS.wd hwd (Or.inr (Or.inr rfl))
  replace hR := hR.wd hwd (by decide)
  clear hwd hSV
  refine aw_aload0 14 dX4_read_14 ?_
  refine aw_iload3 15 dX4_read_15 ?_
  refine fp_put 16 dX4_read_16 ckF_RX4_39_4 ckP4_3 hR.1 rfl rfl (fun M hd => ?_)
  have p3 := hd.2.2.1
  replace hcs : ∀ k, k < n → M.2.2 11 k = .int (t k) := fun k hk => (hd.2.2.2 11 k (by omega)).trans (hcs k hk)
  replace hR := hR.wf hd (by decide) (by decide)
  replace hS := hS.wd hd.toWd (Or.inl rfl)
  clear hd
  refine aw_aload0 19 dX4_read_19 ?_
  refine aw_ic0 20 dX4_read_20 ?_
  refine fp_put 21 dX4_read_21 ckF_RX4_42_4 ckP4_4 hR.1 rfl rfl (fun M hd => ?_)
  have p4 : M.2.2 9 4 = .int (nI 0) := hd.2.2.1
  replace p3 := (hd.2.2.2 9 3 (by decide)).trans p3
  replace hcs : ∀ k, k < n → M.2.2 11 k = .int (t k) := fun k hk => (hd.2.2.2 11 k (by omega)).trans (hcs k hk)
  replace hR := hR.wf hd (by decide) (by decide)
  replace hS := hS.wd hd.toWd (Or.inl rfl)
  clear hd
  refine aw_aload0 24 dX4_read_24 ?_
  refine aw_ic0 25 dX4_read_25 ?_
  refine fp_put 26 dX4_read_26 ckF_RX4_18_4 ckP4_1 hR.1 rfl rfl (fun M hd => ?_)
  have hV : RV M 0 n 0 t := ⟨hR.wf hd (by decide) (by decide), hd.2.2.1, (hd.2.2.2 9 3 (by decide)).trans p3, (hd.2.2.2 9 4 (by decide)).trans p4, fun k hk => (hd.2.2.2 11 k (by omega)).trans (hcs k hk)⟩
  replace hS := hS.wd hd.toWd (Or.inl rfl)
  clear hd hR p3 p4 hcs
  have LP29 : ∀ (dd : Nat) (k i : Nat) (acc : List (Int32 × Nat)) (z : Option Value) (M : Mem), 5 - k = dd → (k < 5) → (acc.length = k) → (i ≤ n) → (RV M k n i t) → (KA M 10 acc) → (FrS SR M0 M) → (rdA t n 5 0 [] = rdA t n (5 - k) i acc) → AW mX4_read rmX4_read (fun r' M' => r' = (some (.int (raR (rdA t n 5 0 [])))) ∧ (fun M => FrS SR M0 M ∧ RK M ∧ ∀ l, rdA t n 5 0 [] = .inr l → RDK M l) M') 29 [some (.ref 9), some (.ref s), some (.int (nI i0)), some (.int (nI n)), z] [] M 0 0 := by
    intro dd
    induction dd using Nat.strongRecOn with
    | _ dd ih29 =>
      intro k i acc z M hdd hk hal hin hV hka hS hq
      refine aw_aload0 29 dX4_read_29 ?_
      refine aw_get 30 dX4_read_30 ckF_RX4_18_4 hV.1.1 hV.2.1 ?_
      refine aw_ic5 33 dX4_read_33 ?_
      refine aw_icmp_geN 34 158 (k) (5) dX4_read_34 (by decide) rfl rfl (by omega) (by omega) (fun h34 => ?_) (fun h34 => ?_)
      · exact absurd h34 (by omega)
      · rw [show 5 - k = (4 - k) + 1 by omega] at hq
        replace hq := hq.trans rdA_s
        refine aw_aload0 37 dX4_read_37 ?_
        refine cr_v1 38 dX4_read_38 (c_X4_code hV (by omega) (by omega)) ckV_RX4_45 cd_X4_code hV.1.1 vc4 rfl rfl (Nat.le_of_ble_eq_true rfl) ⟨⟨by decide, by decide⟩, by decide, by decide⟩ rfl ?_
        refine aw_istore4 41 dX4_read_41 rfl ?_
        refine aw_iload4 43 dX4_read_43 ?_
        refine cr_s1 45 dX4_read_45 (cr_sd c_X4_isKind) ckS_RX4_49 cd_X4_isKind rfl (Nat.le_of_ble_eq_true rfl) ⟨⟨by decide, by decide⟩, by decide, by decide⟩ rfl ?_
        refine aw_ifne_b 48 56 dX4_read_48 (by decide) (fun h48 => ?_) (fun h48 => ?_)
        · rw [if_neg (nn h48)] at hq
          have hkl := isKd_lt h48
          refine aw_aload0 56 dX4_read_56 ?_
          refine aw_dup 57 dX4_read_57 rfl ?_
          refine aw_get 58 dX4_read_58 ckF_RX4_42_4 hV.1.1 hV.2.2.2.1 ?_
          refine aw_ic1 61 dX4_read_61 ?_
          refine aw_iaddN 62 (i) (1) dX4_read_62 rfl rfl ?_
          refine fp_put 63 dX4_read_63 ckF_RX4_42_4 ckP4_4 hV.1.1 rfl rfl (fun M hd => ?_)
          replace hV := hV.at hd
          replace hka := hka.wd hd.toWd (by decide)
          replace hS := hS.wd hd.toWd (Or.inl rfl)
          clear hd
          refine aw_aload0 66 dX4_read_66 ?_
          refine aw_iload4 67 dX4_read_67 ?_
          refine ap_v1 69 dX4_read_69 (c_X4_readNumber h48 hV (by omega) (by omega)) ckV_RX4_53 cd_X4_readNumber hV.1.1 vc4 rfl rfl (Nat.le_of_ble_eq_true rfl) ⟨⟨by decide, by decide⟩, by decide, by decide⟩ rfl (fun M hr => ?_)
          replace hka := hka.wd hr.1 (by decide)
          replace hS := hS.wd hr.1 (Or.inl rfl)
          replace hV := hr.2.1
          obtain ⟨v, hU, hv⟩ := hr.2.2
          clear hr
          have hpl := (rdN_le (t := t) (n := n) (i := i + 1) (c := cdA t n i) (by omega)).1
          refine aw_ifne_b 72 80 dX4_read_72 (by decide) (fun h72 => ?_) (fun h72 => ?_)
          · rw [if_neg (by rw [h72]; decide)] at hq
            replace hv := hv h72
            refine aw_aload0 80 dX4_read_80 ?_
            refine aw_get 81 dX4_read_81 ckF_RX4_9_4 hV.1.1 hV.1.2.1 ?_
            refine aw_aload0 84 dX4_read_84 ?_
            refine aw_get 85 dX4_read_85 ckF_RX4_18_4 hV.1.1 hV.2.1 ?_
            refine aw_iload4 88 dX4_read_88 ?_
            refine aw_sipush 90 10000 dX4_read_90 (by decide) ?_
            refine aw_imul 93 dX4_read_93 ?_
            refine aw_aload0 94 dX4_read_94 ?_
            refine aw_get 95 dX4_read_95 ckF_RX4_56_4 hV.1.1 hU ?_
            refine aw_iadd 98 dX4_read_98 ?_
            refine ax_st 99 (k) dX4_read_99 hV.1.2.2.2.1 (by decide) rfl (show k < 5 by omega) (by decide) (fun M hd => ?_)
            replace hV := hV.act hd.toWd
            replace hU := (hd.2.2.2 9 5 (by omega)).trans hU
            replace hka := hka.app hd hal (q := (cdA t n i, v)) rfl
            rw [hv] at hka
            replace hS := hS.wd hd.toWd (Or.inr (Or.inl rfl))
            clear hd hU
            refine aw_aload0 100 dX4_read_100 ?_
            refine aw_dup 101 dX4_read_101 rfl ?_
            refine aw_get 102 dX4_read_102 ckF_RX4_18_4 hV.1.1 hV.2.1 ?_
            refine aw_ic1 105 dX4_read_105 ?_
            refine aw_iaddN 106 (k) (1) dX4_read_106 rfl rfl ?_
            refine fp_put 107 dX4_read_107 ckF_RX4_18_4 ckP4_1 hV.1.1 rfl rfl (fun M hd => ?_)
            replace hV := hV.cnt hd
            replace hka := hka.wd hd.toWd (by decide)
            replace hS := hS.wd hd.toWd (Or.inl rfl)
            clear hd
            refine aw_aload0 110 dX4_read_110 ?_
            refine aw_get 111 dX4_read_111 ckF_RX4_42_4 hV.1.1 hV.2.2.2.1 ?_
            refine aw_aload0 114 dX4_read_114 ?_
            refine aw_get 115 dX4_read_115 ckF_RX4_39_4 hV.1.1 hV.2.2.1 ?_
            refine aw_icmp_ltN 118 123 ((rdN t n (cdA t n i) (i + 1)).2.1) (n) dX4_read_118 (by decide) rfl rfl (by omega) (by omega) (fun h118 => ?_) (fun h118 => ?_)
            · rw [if_neg (by omega)] at hq
              refine aw_aload0 123 dX4_read_123 ?_
              refine cr_v1 124 dX4_read_124 (c_X4_code hV (by omega) (by omega)) ckV_RX4_45 cd_X4_code hV.1.1 vc4 rfl rfl (Nat.le_of_ble_eq_true rfl) ⟨⟨by decide, by decide⟩, by decide, by decide⟩ rfl ?_
              refine aw_topi (w := t (rdN t n (cdA t n i) (i + 1)).2.1) (if_pos h118) ?_
              refine aw_bipush 127 59 dX4_read_127 (by decide) ?_
              refine aw_icmp_ne 129 140 dX4_read_129 (by decide) (fun h129 => ?_) (fun h129 => ?_)
              · rw [if_pos (Or.inl h129)] at hq
                refine aw_aload0 140 dX4_read_140 ?_
                refine aw_get 141 dX4_read_141 ckF_RX4_42_4 hV.1.1 hV.2.2.2.1 ?_
                refine aw_iret 144 dX4_read_144 rfl (Nat.zero_le _) (Nat.zero_le _) ?_
                rw [hq]
                exact ⟨rfl, hS, hV.1, fun l q => by cases q⟩
              · refine aw_aload0 132 dX4_read_132 ?_
                refine aw_get 133 dX4_read_133 ckF_RX4_18_4 hV.1.1 hV.2.1 ?_
                refine aw_ic5 136 dX4_read_136 ?_
                refine aw_icmp_ltN 137 145 (k + 1) (5) dX4_read_137 (by decide) rfl rfl (by omega) (by omega) (fun h137 => ?_) (fun h137 => ?_)
                · rw [if_neg (fun q => by rcases q with q | q; exact q h129; omega)] at hq
                  refine aw_aload0 145 dX4_read_145 ?_
                  refine aw_dup 146 dX4_read_146 rfl ?_
                  refine aw_get 147 dX4_read_147 ckF_RX4_42_4 hV.1.1 hV.2.2.2.1 ?_
                  refine aw_ic1 150 dX4_read_150 ?_
                  refine aw_iaddN 151 ((rdN t n (cdA t n i) (i + 1)).2.1) (1) dX4_read_151 rfl rfl ?_
                  refine fp_put 152 dX4_read_152 ckF_RX4_42_4 ckP4_4 hV.1.1 rfl rfl (fun M hd => ?_)
                  replace hV := hV.at hd
                  replace hka := hka.wd hd.toWd (by decide)
                  replace hS := hS.wd hd.toWd (Or.inl rfl)
                  clear hd
                  refine aw_goto 155 29 dX4_read_155 (by decide) ?_
                  exact ih29 _ (by omega) (k + 1) ((rdN t n (cdA t n i) (i + 1)).2.1 + 1) (acc ++ [(cdA t n i, (rdN t n (cdA t n i) (i + 1)).2.2)]) _ M rfl (by omega) (by rw [List.length_append]; show acc.length + 1 = k + 1; omega) (by omega) hV hka hS (by rw [hq, show 5 - (k + 1) = 4 - k by omega])
                · rw [if_pos (Or.inr (by omega))] at hq
                  refine aw_aload0 140 dX4_read_140 ?_
                  refine aw_get 141 dX4_read_141 ckF_RX4_42_4 hV.1.1 hV.2.2.2.1 ?_
                  refine aw_iret 144 dX4_read_144 rfl (Nat.zero_le _) (Nat.zero_le _) ?_
                  rw [hq]
                  exact ⟨rfl, hS, hV.1, fun l q => by cases q⟩
            · rw [if_pos h118] at hq
              refine aw_icm1 121 dX4_read_121 ?_
              refine aw_iret 122 dX4_read_122 rfl (Nat.zero_le _) (Nat.zero_le _) ?_
              rw [hq]
              refine ⟨rfl, hS, hV.1, fun l q => ?_⟩
              have q2 := Sum.inr.inj q
              subst q2
              have hln : (acc ++ [(cdA t n i, (rdN t n (cdA t n i) (i + 1)).2.2)]).length = k + 1 := by rw [List.length_append]; show acc.length + 1 = k + 1; omega
              exact ⟨by rw [hln]; exact hV.2.1, by omega, hka⟩
          · rw [if_pos (by simpa using h72)] at hq
            refine aw_aload0 75 dX4_read_75 ?_
            refine aw_get 76 dX4_read_76 ckF_RX4_42_4 hV.1.1 hV.2.2.2.1 ?_
            refine aw_iret 79 dX4_read_79 rfl (Nat.zero_le _) (Nat.zero_le _) ?_
            rw [hq]
            exact ⟨rfl, hS, hV.1, fun l q => by cases q⟩
        · rw [if_pos h48] at hq
          refine aw_aload0 51 dX4_read_51 ?_
          refine aw_get 52 dX4_read_52 ckF_RX4_42_4 hV.1.1 hV.2.2.2.1 ?_
          refine aw_iret 55 dX4_read_55 rfl (Nat.zero_le _) (Nat.zero_le _) ?_
          rw [hq]
          exact ⟨rfl, hS, hV.1, fun l q => by cases q⟩
  exact LP29 _ 0 0 [] _ M rfl (by omega) rfl (by omega) hV (fun j hj => absurd hj (Nat.not_lt_zero _)) hS rfl

def CPY (M0 : Mem) (A a m : Nat) (M : Mem) : Prop := M.1 = A + 1 ∧ Fa A M0 M ∧ M.2.1 A = (20, m) ∧ ∀ j, j < m → M.2.2 A j = M0.2.2 a j

def rmJ7_copyOf_59c91 : Room := { frames := 1, cells := 1, slots := 5, locals := 40 }
set_option maxHeartbeats 4000000 in
set_option maxRecDepth 100000 in
theorem c5_J7_copyOf_59c91 {M0 : Mem} {A a : Nat} (hA : M0.1 = A) (h2 : 2 ≤ a) (ha : a < A) (hk : M0.2.1 a = (20, 5)) (hi : ∀ j, j < 5 → ∃ z, M0.2.2 a j = .int z) : AP mJ7_copyOf_59c91 rmJ7_copyOf_59c91 [.ref a, .int (nI 5)] M0 (some (.ref A)) (CPY M0 A a 5) := by
  refine am_of rfl rfl (ls := [some (.ref a), some (.int (nI 5)), none]) rfl ?_
  refine aw_iload1 0 dJ7_copyOf_59c91_0 ?_
  refine aw_aload0 1 dJ7_copyOf_59c91_1 ?_
  refine aw_alen 2 dJ7_copyOf_59c91_2 hk ?_
  refine aw_icmp_neN 3 14 (5) (5) dJ7_copyOf_59c91_3 (by decide) rfl rfl (by decide) (by decide) (fun h => absurd h (by decide)) (fun _ => ?_)
  refine aw_aload0 6 dJ7_copyOf_59c91_6 ?_
  refine aw_clone 7 dJ7_copyOf_59c91_7 (by decide +kernel) hk h2 (fun i hi5 => hi i (by omega)) (Nat.le_of_ble_eq_true rfl) (by decide) (by decide) (by decide) (by decide) ?_
  rw [hA]
  have hn : NW A (20, 5) (M0.2.2 a) M0 (nw M0 (20, 5) (M0.2.2 a)) := NW.mk hA
  generalize nw M0 (20, 5) (M0.2.2 a) = M at hn ⊢
  refine aw_cast 10 dJ7_copyOf_59c91_10 (by decide +kernel) hn.2.1 (by omega) ?_
  refine aw_aret 13 dJ7_copyOf_59c91_13 rfl (Or.inr ⟨_, rfl⟩) (by decide) (by decide) ?_
  exact ⟨rfl, hn.1, (Fa.rf A M0).nw hn (Nat.le_refl _), hn.2.1, fun j hj => by rw [hn.2.2.1]⟩

theorem cpV_in {f g : Nat → Value} {n k : Nat} (h : k < n) : cpV f g 0 0 n k = f k := by
  unfold cpV
  rw [if_pos (by omega), show 0 + (k - 0) = k by omega]
theorem min5 : ∀ m, m < 5 → (if nI m < nI 5 then nI m else nI 5) = nI m := by decide +kernel

set_option maxHeartbeats 4000000 in
set_option maxRecDepth 100000 in
theorem cm_J7_copyOf_59c91 {M0 : Mem} {A a m : Nat} (hm : m < 5) (hA : M0.1 = A) (h2 : 2 ≤ a) (ha : a < A) (hk : M0.2.1 a = (20, 5)) (hi : ∀ j, j < m → ∃ z, M0.2.2 a j = .int z) : AP mJ7_copyOf_59c91 rmJ7_copyOf_59c91 [.ref a, .int (nI m)] M0 (some (.ref A)) (CPY M0 A a m) := by
  refine am_of rfl rfl (ls := [some (.ref a), some (.int (nI m)), none]) rfl ?_
  refine aw_iload1 0 dJ7_copyOf_59c91_0 ?_
  refine aw_aload0 1 dJ7_copyOf_59c91_1 ?_
  refine aw_alen 2 dJ7_copyOf_59c91_2 hk ?_
  refine aw_icmp_neN 3 14 (m) (5) dJ7_copyOf_59c91_3 (by decide) rfl rfl (by omega) (by omega) (fun h3 => ?_) (fun h3 => ?_)
  · refine aw_iload1 14 dJ7_copyOf_59c91_14 ?_
    refine na_new 15 (m) (A) dJ7_copyOf_59c91_15 rfl (by omega) hA (by decide) (by show 0 + m ≤ 5; omega) (fun M hd => ?_)
    have hk2 : M.2.1 a = (20, 5) := by rw [(hd.2.2.2 a (by omega)).1]; exact hk
    refine aw_astore2 17 dJ7_copyOf_59c91_17 rfl ?_
    refine aw_aload0 18 dJ7_copyOf_59c91_18 ?_
    refine aw_ic0 19 dJ7_copyOf_59c91_19 ?_
    refine aw_aload2 20 dJ7_copyOf_59c91_20 ?_
    refine aw_ic0 21 dJ7_copyOf_59c91_21 ?_
    refine aw_aload0 22 dJ7_copyOf_59c91_22 ?_
    refine aw_alen 23 dJ7_copyOf_59c91_23 hk2 ?_
    refine aw_iload1 24 dJ7_copyOf_59c91_24 ?_
    refine aw_min 25 dJ7_copyOf_59c91_25 ckM_RJ7_304 (Nat.le_of_ble_eq_true rfl) (by decide) (by decide) (by decide) (by show 0 + m ≤ 5; omega) ?_
    refine aw_topi (w := nI m) (min5 m hm) ?_
    refine aw_copy 28 (0) (0) (m) dJ7_copyOf_59c91_28 ckY_RJ7_150 hk2 hd.2.1 h2 (by omega) rfl rfl rfl (by omega) (by omega) (by decide) (by omega) (fun i hi5 => by rw [(hd.2.2.2 a (by omega)).2, Nat.zero_add]; exact hi i hi5) (Nat.le_of_ble_eq_true rfl) (by decide) (by decide) ?_
    refine aw_aload2 31 dJ7_copyOf_59c91_31 ?_
    refine aw_aret 32 dJ7_copyOf_59c91_32 rfl (Or.inr ⟨_, rfl⟩) (by decide) (by show 0 + m ≤ 5; omega) ?_
    have hw : Wd A M (wa M A (cpV (M.2.2 a) (M.2.2 A) 0 0 m)) := ⟨rfl, rfl, fun c hc => if_neg hc⟩
    refine ⟨rfl, hd.1, ((Fa.rf A M0).nw hd (Nat.le_refl _)).wd hw (Nat.le_refl _), hd.2.1, fun j hj => ?_⟩
    show (if A = A then cpV (M.2.2 a) (M.2.2 A) 0 0 m else M.2.2 A) j = _
    rw [if_pos rfl, cpV_in hj, (hd.2.2.2 a (by omega)).2]
  · exact absurd h3 (by omega)

theorem c_J7_copyOf_59c91 {M0 : Mem} {A a m : Nat} (hm : m ≤ 5) (hA : M0.1 = A) (h2 : 2 ≤ a) (ha : a < A) (hk : M0.2.1 a = (20, 5)) (hi : ∀ j, j < m → ∃ z, M0.2.2 a j = .int z) : AP mJ7_copyOf_59c91 rmJ7_copyOf_59c91 [.ref a, .int (nI m)] M0 (some (.ref A)) (CPY M0 A a m) := by
  by_cases h : m = 5
  · subst h; exact c5_J7_copyOf_59c91 hA h2 ha hk hi
  · exact cm_J7_copyOf_59c91 (by omega) hA h2 ha hk hi

def rmX4_keptActs : Room := { frames := 2, cells := 1, slots := 5, locals := 62 }
set_option maxHeartbeats 4000000 in
set_option maxRecDepth 100000 in
theorem c_X4_keptActs {M0 : Mem} {A : Nat} {l : List (Int32 × Nat)} (hA : M0.1 = A) (hA2 : 49 ≤ A) (hR : RK M0) (hK : RDK M0 l) : AP mX4_keptActs rmX4_keptActs [.ref 9] M0 (some (.ref A)) (CPY M0 A 10 l.length) := by
  refine am_of rfl rfl (ls := [some (.ref 9)]) rfl ?_
  suffices HH : ∀ M, (M = M0) → AW mX4_keptActs rmX4_keptActs (fun r' M' => r' = (some (.ref A)) ∧ (CPY M0 A 10 l.length) M') 0 [some (.ref 9)] [] M 0 0 from HH M0 rfl
  intro M hm
  subst hm
  refine aw_aload0 0 dX4_keptActs_0 ?_
  refine aw_get 1 dX4_keptActs_1 ckF_RX4_9_4 hR.1 hR.2.1 ?_
  refine aw_aload0 4 dX4_keptActs_4 ?_
  refine aw_get 5 dX4_keptActs_5 ckF_RX4_18_4 hR.1 hK.1 ?_
  refine ap_s 8 dX4_keptActs_8 (c_J7_copyOf_59c91 hK.2.1 hA (by decide) (by omega) hR.2.2.2.1 (fun j hj => by obtain ⟨q, h1, h2⟩ := hK.2.2 j hj; exact ⟨_, h2⟩)) ckS_RX4_22 cd_J7_copyOf_59c91 rfl (Nat.le_of_ble_eq_true rfl) ⟨⟨by decide, by decide⟩, by decide, by decide⟩ (fun M hq => ?_)
  refine aw_aret 11 dX4_keptActs_11 rfl (Or.inr ⟨_, rfl⟩) (by decide) (by decide) ?_
  exact ⟨rfl, hq⟩

