/-! the nearest: chosen one by one, or by how many are nearer (gen/clsD.py) -/
def bt (x : Int32) (i : Nat) : Bool := x.toBitVec.getLsbD i
theorem b_ext {x y : Int32} (h : ∀ i, i < 32 → bt x i = bt y i) : x = y := Int32.toBitVec_inj.mp (BitVec.eq_of_getLsbD_eq (fun i hi => h i hi))
theorem b_or (x y : Int32) (i : Nat) : bt (x ||| y) i = (bt x i || bt y i) := by unfold bt; rw [Int32.toBitVec_or, BitVec.getLsbD_or]
theorem b_and (x y : Int32) (i : Nat) : bt (x &&& y) i = (bt x i && bt y i) := by unfold bt; rw [Int32.toBitVec_and, BitVec.getLsbD_and]
theorem s_l : ∀ n, n < 32 → ((nI n &&& 31).toBitVec.smod 32).toNat = n := by decide +kernel
theorem b_sshr (n : Nat) (hn : n < 32) (x : Int32) {i : Nat} (hi : i < 32) : bt (x >>> (nI n &&& 31)) i = if n + i < 32 then bt x (n + i) else bt x 31 := by
  unfold bt
  rw [Int32.toBitVec_shiftRight]
  show (x.toBitVec.sshiftRight ((nI n &&& 31).toBitVec.smod 32).toNat).getLsbD i = _
  rw [s_l n hn, BitVec.getLsbD_sshiftRight, BitVec.msb_eq_getLsbD_last]
  simp [hi]
theorem bt_1 : ∀ i, i < 32 → bt 1 i = decide (i = 0) := by decide +kernel
theorem bt_p : ∀ b, b < 12 → ∀ q, q < 12 → bt (1 <<< (nI b &&& 31)) q = decide (q = b) := by decide +kernel
theorem hbt_bt {s : Int32} {k : Nat} (hk : k < 32) : hbt s k ↔ bt s k = true := by
  unfold hbt
  have h0 : bt (s >>> (nI k &&& 31)) 0 = bt s k := by rw [b_sshr k hk s (by omega), if_pos (by omega), Nat.add_zero]
  constructor
  · intro h
    have this : bt ((s >>> (nI k &&& 31)) &&& 1) 0 = bt 1 0 := congrArg (fun z => bt z 0) h
    rw [b_and, h0, show bt 1 0 = true from by decide] at this
    exact (Bool.and_eq_true_iff.mp this).1
  · intro h
    refine b_ext (fun i hi => ?_)
    rw [b_and, bt_1 i hi]
    by_cases e : i = 0
    · subst e; rw [h0, h]; rfl
    · rw [decide_eq_false e, Bool.and_false]
theorem hbt_or {s : Int32} {b q : Nat} (hb : b < 12) (hq : q < 12) : hbt (s ||| (1 <<< (nI b &&& 31))) q ↔ hbt s q ∨ q = b := by
  rw [hbt_bt (by omega), hbt_bt (by omega), b_or, bt_p b hb q hq, Bool.or_eq_true, decide_eq_true_iff]
theorem hbt_p {b q : Nat} (hb : b < 12) (hq : q < 12) : hbt (1 <<< (nI b &&& 31)) q ↔ q = b := by
  rw [hbt_bt (by omega), bt_p b hb q hq, decide_eq_true_iff]
/-- how many there are under n -/
def cP (f : Nat → Bool) : Nat → Nat
  | 0 => 0
  | n + 1 => cP f n + (if f n = true then 1 else 0)
theorem cP_s {f : Nat → Bool} {n : Nat} : cP f (n + 1) = cP f n + (if f n = true then 1 else 0) := rfl
theorem cP_le (f : Nat → Bool) : ∀ n, cP f n ≤ n := by
  intro n
  induction n with
  | zero => exact Nat.le_refl _
  | succ n ih => rw [cP_s]; split <;> omega
theorem cP_cg {f g : Nat → Bool} : ∀ n, (∀ r, r < n → f r = g r) → cP f n = cP g n := by
  intro n
  induction n with
  | zero => intro _; rfl
  | succ n ih => intro h; rw [cP_s, cP_s, ih (fun r hr => h r (by omega)), h n (by omega)]
theorem cP_mo {f g : Nat → Bool} : ∀ n, (∀ r, r < n → f r = true → g r = true) → cP f n ≤ cP g n := by
  intro n
  induction n with
  | zero => intro _; exact Nat.le_refl _
  | succ n ih =>
    intro h
    have := ih (fun r hr => h r (by omega))
    rw [cP_s, cP_s]
    by_cases c : f n = true
    · rw [if_pos c, if_pos (h n (by omega) c)]; omega
    · rw [if_neg c]; omega
theorem cP_lt {f g : Nat → Bool} {b : Nat} : ∀ n, b < n → (∀ r, r < n → f r = true → g r = true) → f b = false → g b = true → cP f n < cP g n := by
  intro n
  induction n with
  | zero => intro h; omega
  | succ n ih =>
    intro hb h h1 h2
    have hm := cP_mo n (fun r hr => h r (by omega))
    rw [cP_s, cP_s]
    by_cases e : b = n
    · subst e
      rw [if_neg (by rw [h1]; decide), if_pos h2]; omega
    · have := ih (by omega) (fun r hr => h r (by omega)) h1 h2
      by_cases c : f n = true
      · rw [if_pos c, if_pos (h n (by omega) c)]; omega
      · rw [if_neg c]; omega
theorem cP_in {f g : Nat → Bool} {b : Nat} : ∀ n, b < n → f b = false → (∀ r, r < n → g r = (f r || decide (r = b))) → cP g n = cP f n + 1 := by
  intro n
  induction n with
  | zero => intro h; omega
  | succ n ih =>
    intro hb h1 h
    rw [cP_s, cP_s]
    by_cases e : b = n
    · subst e
      rw [cP_cg b (f := g) (g := f) (fun r hr => by rw [h r (by omega), decide_eq_false (by omega), Bool.or_false]), h b (by omega), h1, if_pos (by rw [decide_eq_true rfl]; rfl), if_neg (by decide)]
    · rw [ih (by omega) h1 (fun r hr => h r (by omega)), h n (by omega), decide_eq_false (show ¬ n = b by omega), Bool.or_false]
      omega
section
variable {τ : TT} {p : Nat}
abbrev ltq (τ : TT) (p r q : Nat) : Prop := lkn τ p r < lkn τ p q ∨ (lkn τ p r = lkn τ p q ∧ r < q)
theorem ltq_i {r q : Nat} : ltq τ p r q ↔ ((lkn τ p r).toInt < (lkn τ p q).toInt ∨ ((lkn τ p r).toInt = (lkn τ p q).toInt ∧ r < q)) := by
  unfold ltq
  rw [Int32.lt_iff_toInt_lt, ← Int32.toInt_inj]
theorem ltq_as {r q : Nat} (h : ltq τ p r q) (g : ltq τ p q r) : False := by
  rw [ltq_i] at h g
  omega
theorem ltq_to {r q : Nat} (h : r ≠ q) : ltq τ p r q ∨ ltq τ p q r := by
  rw [ltq_i, ltq_i]
  omega
theorem ltq_tr {a b c : Nat} (h : ltq τ p a b) (g : ltq τ p b c) : ltq τ p a c := by
  rw [ltq_i] at *
  omega
def rkF (τ : TT) (p q r : Nat) : Bool := decide (r ≠ p ∧ r ≠ q ∧ ltq τ p r q)
/-- how many are nearer -/
def rkc (τ : TT) (p q n : Nat) : Nat := cP (rkF τ p q) n
theorem rkc_s {q r : Nat} : rkc τ p q (r + 1) = rkc τ p q r + (if r ≠ p ∧ r ≠ q ∧ ltq τ p r q then 1 else 0) := by
  show cP _ r + _ = cP _ r + _
  unfold rkF
  by_cases c : r ≠ p ∧ r ≠ q ∧ ltq τ p r q
  · rw [if_pos (decide_eq_true c), if_pos c]
  · rw [if_neg (by rw [decide_eq_false c]; decide), if_neg c]
theorem rk_n {q r c : Nat} (h : ¬ (r ≠ p ∧ r ≠ q ∧ ltq τ p r q)) (hc : c = rkc τ p q r) : c = rkc τ p q (r + 1) := by rw [rkc_s, if_neg h]; exact hc
theorem rk_y {q r c : Nat} (h : r ≠ p ∧ r ≠ q ∧ ltq τ p r q) (hc : c = rkc τ p q r) : c + 1 = rkc τ p q (r + 1) := by rw [rkc_s, if_pos h, hc]
theorem nbo_none {tk : Int32} : ∀ n, nbo τ p tk n = none → ∀ q, q < n → hbt tk q := by
  intro n
  induction n with
  | zero => intro _ q hq; omega
  | succ n ih =>
    intro h q hq
    rw [nbo_s] at h
    by_cases c : hbt tk n
    · rw [if_pos c] at h
      by_cases e : q = n
      · rw [e]; exact c
      · exact ih h q (by omega)
    · rw [if_neg c] at h
      cases hz : nbo τ p tk n with
      | none => rw [hz] at h; cases h
      | some z =>
        rw [hz] at h
        have h : (if lkn τ p n < lkn τ p z then some n else some z) = none := h
        split at h <;> cases h
theorem nbo_min {tk : Int32} : ∀ n b, nbo τ p tk n = some b → ¬ hbt tk b ∧ ∀ q, q < n → ¬ hbt tk q → q = b ∨ ltq τ p b q := by
  intro n
  induction n with
  | zero => intro b h; cases h
  | succ n ih =>
    intro b h
    rw [nbo_s] at h
    by_cases c : hbt tk n
    · rw [if_pos c] at h
      obtain ⟨h1, h2⟩ := ih b h
      refine ⟨h1, fun q hq hn => ?_⟩
      by_cases e : q = n
      · exact absurd (e ▸ c) hn
      · exact h2 q (by omega) hn
    · rw [if_neg c] at h
      cases hz : nbo τ p tk n with
      | none =>
        rw [hz] at h
        have e := Option.some.inj h
        subst e
        refine ⟨c, fun q hq hn => ?_⟩
        by_cases e : q = n
        · exact Or.inl e
        · exact absurd (nbo_none n hz q (by omega)) hn
      | some z =>
        rw [hz] at h
        have h : (if lkn τ p n < lkn τ p z then some n else some z) = some b := h
        obtain ⟨h1, h2⟩ := ih z hz
        have hzn := nbo_lt hz
        by_cases l : lkn τ p n < lkn τ p z
        · rw [if_pos l] at h
          have e := Option.some.inj h
          subst e
          refine ⟨c, fun q hq hn => ?_⟩
          by_cases e : q = n
          · exact Or.inl e
          · rcases h2 q (by omega) hn with k | k
            · rw [k]; exact Or.inr (Or.inl l)
            · exact Or.inr (ltq_tr (Or.inl l) k)
        · rw [if_neg l] at h
          have e := Option.some.inj h
          subst e
          refine ⟨h1, fun q hq hn => ?_⟩
          by_cases e : q = n
          · subst e
            refine Or.inr ?_
            rw [ltq_i]
            rw [Int32.lt_iff_toInt_lt] at l
            omega
          · exact h2 q (by omega) hn
def tkF (p : Nat) (tk : Int32) (r : Nat) : Bool := decide (r ≠ p ∧ hbt tk r)
/-- what is taken is what is nearest -/
def tkI (τ : TT) (p x : Nat) : Prop := hbt (nrs τ p x) p ∧ (∀ q, q < nP τ → hbt (nrs τ p x) q → q ≠ p → ∀ r, r < nP τ → ltq τ p r q → hbt (nrs τ p x) r) ∧ cP (tkF p (nrs τ p x)) (nP τ) = x
theorem tk_0 (hw : WP τ) (hp : p < nP τ) : tkI τ p 0 := by
  have h12 := hw.1.1
  refine ⟨(hbt_p (by omega) (by omega)).mpr rfl, fun q hq h1 h2 => absurd ((hbt_p (by omega) (by omega)).mp h1) h2, ?_⟩
  have h0 : ∀ n, cP (fun _ => false) n = 0 := by
    intro n
    induction n with
    | zero => rfl
    | succ n ih => rw [cP_s, ih]; rfl
  exact (cP_cg (g := fun _ => false) _ (fun r hr => decide_eq_false (fun q => q.1 ((hbt_p (by omega) (by omega)).mp q.2)))).trans (h0 (nP τ))
theorem tk_b {x b : Nat} (hp : p < nP τ) (h : tkI τ p x) (hb : nbo τ p (nrs τ p x) (nP τ) = some b) : b < nP τ ∧ b ≠ p ∧ ¬ hbt (nrs τ p x) b ∧ ∀ r, r < nP τ → (r ≠ p ∧ r ≠ b ∧ ltq τ p r b ↔ r ≠ p ∧ hbt (nrs τ p x) r) := by
  obtain ⟨m1, m2⟩ := nbo_min _ _ hb
  have hbn := nbo_lt hb
  refine ⟨hbn, fun e => m1 (e ▸ h.1), m1, fun r hr => ⟨fun q => ⟨q.1, ?_⟩, fun q => ⟨q.1, fun e => m1 (e ▸ q.2), ?_⟩⟩⟩
  · refine Decidable.byContradiction (fun z => ?_)
    rcases m2 r hr z with k | k
    · exact q.2.1 k
    · exact ltq_as q.2.2 k
  · rcases ltq_to (τ := τ) (p := p) (fun e : r = b => m1 (e ▸ q.2)) with k | k
    · exact k
    · exact absurd (h.2.1 r hr q.2 q.1 b hbn k) m1
theorem tk_rk {x b : Nat} (hp : p < nP τ) (h : tkI τ p x) (hb : nbo τ p (nrs τ p x) (nP τ) = some b) : rkc τ p b (nP τ) = x := by
  obtain ⟨h1, h2, h3, h4⟩ := tk_b hp h hb
  rw [← h.2.2]
  refine cP_cg _ (fun r hr => ?_)
  unfold rkF tkF
  by_cases c : r ≠ p ∧ r ≠ b ∧ ltq τ p r b
  · rw [decide_eq_true c, decide_eq_true ((h4 r hr).mp c)]
  · rw [decide_eq_false c, decide_eq_false (fun q => c ((h4 r hr).mpr q))]
theorem tk_s {x b : Nat} (hw : WP τ) (hp : p < nP τ) (h : tkI τ p x) (hb : nbo τ p (nrs τ p x) (nP τ) = some b) : tkI τ p (x + 1) := by
  have h12 := hw.1.1
  obtain ⟨h1, h2, h3, h4⟩ := tk_b hp h hb
  have hn : ∀ q, q < nP τ → (hbt (nrs τ p (x + 1)) q ↔ hbt (nrs τ p x) q ∨ q = b) := fun q hq => by
    rw [nrs_s, hb]
    exact hbt_or (by omega) (by omega)
  refine ⟨(hn p hp).mpr (Or.inl h.1), fun q hq k1 k2 r hr k3 => (hn r hr).mpr ?_, ?_⟩
  · rcases (hn q hq).mp k1 with k | k
    · exact Or.inl (h.2.1 q hq k k2 r hr k3)
    · subst k
      by_cases e : r = p
      · exact Or.inl (e ▸ h.1)
      · by_cases e2 : r = q
        · exact Or.inr e2
        · exact Or.inl ((h4 r hr).mp ⟨e, e2, k3⟩).2
  · have := cP_in (f := tkF p (nrs τ p x)) (g := tkF p (nrs τ p (x + 1))) (b := b) (nP τ) h1 (decide_eq_false (fun q => h3 q.2)) (fun r hr => by
      unfold tkF
      by_cases c : hbt (nrs τ p x) r
      · by_cases e : r = p
        · rw [decide_eq_false (fun q => q.1 e), decide_eq_false (fun q => q.1 e), decide_eq_false (show ¬ r = b from fun z => h2 (z ▸ e))]; rfl
        · rw [decide_eq_true ⟨e, (hn r hr).mpr (Or.inl c)⟩, decide_eq_true ⟨e, c⟩]; rfl
      · rw [decide_eq_false (p := r ≠ p ∧ hbt (nrs τ p x) r) (fun q => c q.2), Bool.false_or]
        by_cases e : r = b
        · rw [decide_eq_true (p := r = b) e, decide_eq_true ⟨e ▸ h2, (hn r hr).mpr (Or.inr e)⟩]
        · rw [decide_eq_false (p := r = b) e, decide_eq_false (fun q => ((hn r hr).mp q.2).elim c e)])
    rw [this, h.2.2]
theorem rk_lt {q b : Nat} (hq : q < nP τ) (hqp : q ≠ p) (hqb : ltq τ p q b) : rkc τ p q (nP τ) < rkc τ p b (nP τ) := by
  refine cP_lt (b := q) (nP τ) hq (fun r hr c => ?_) (decide_eq_false (fun z => z.2.1 rfl)) (decide_eq_true ⟨hqp, fun e => by subst e; exact ltq_as hqb hqb, hqb⟩)
  have c := of_decide_eq_true c
  exact decide_eq_true ⟨c.1, fun e => by subst e; exact ltq_as c.2.2 hqb, ltq_tr c.2.2 hqb⟩
theorem rk_un {q b : Nat} (hq : q < nP τ) (hqp : q ≠ p) (hb : b < nP τ) (hbp : b ≠ p) (h : rkc τ p q (nP τ) = rkc τ p b (nP τ)) : q = b := by
  refine Decidable.byContradiction (fun e => ?_)
  rcases ltq_to (τ := τ) (p := p) e with k | k
  · have := rk_lt hq hqp k; omega
  · have := rk_lt hb hbp k; omega
theorem tk_all (hw : WP τ) (hp : p < nP τ) : ∀ x, (∀ y, y < x → ∃ b, nbo τ p (nrs τ p y) (nP τ) = some b) → tkI τ p x := by
  intro x
  induction x with
  | zero => intro _; exact tk_0 hw hp
  | succ x ih =>
    intro h
    obtain ⟨b, hb⟩ := h x (by omega)
    exact tk_s hw hp (ih (fun y hy => h y (by omega))) hb
theorem nr_some (hw : WP τ) (hp : p < nP τ) {k : Nat} (h : ∀ y, y ≤ k → ∃ b, nbo τ p (nrs τ p y) (nP τ) = some b) : ∃ b, nbo τ p (nrs τ p k) (nP τ) = some b ∧ b < nP τ ∧ b ≠ p ∧ rkc τ p b (nP τ) = k ∧ ∀ q, q < nP τ → q ≠ p → rkc τ p q (nP τ) = k → q = b := by
  have ht := tk_all hw hp k (fun y hy => h y (by omega))
  obtain ⟨b, hb⟩ := h k (Nat.le_refl _)
  obtain ⟨h1, h2, -, -⟩ := tk_b hp ht hb
  have h3 := tk_rk hp ht hb
  exact ⟨b, hb, h1, h2, h3, fun q q1 q2 q3 => rk_un q1 q2 h1 h2 (q3.trans h3.symm)⟩
theorem nr_none (hw : WP τ) (hp : p < nP τ) : ∀ k, (∃ y, y ≤ k ∧ nbo τ p (nrs τ p y) (nP τ) = none) → ∀ q, q < nP τ → q ≠ p → rkc τ p q (nP τ) ≠ k := by
  intro k h q hq hqp
  obtain ⟨y, ⟨y1, y2⟩, y3⟩ := pk_least (fun y => y ≤ k ∧ nbo τ p (nrs τ p y) (nP τ) = none) h
  have ht := tk_all hw hp y (fun z hz => by
    cases e : nbo τ p (nrs τ p z) (nP τ) with
    | none => exact absurd ⟨by omega, e⟩ (y3 z hz)
    | some b => exact ⟨b, rfl⟩)
  have ha := nbo_none _ y2
  have : rkc τ p q (nP τ) < y := by
    rw [← ht.2.2]
    refine cP_lt (b := q) (nP τ) hq (fun r hr c => ?_) (decide_eq_false (fun z => z.2.1 rfl)) (decide_eq_true ⟨hqp, ha q hq⟩)
    have c := of_decide_eq_true c
    exact decide_eq_true ⟨c.1, ha r hr⟩
  omega
end

def rmX11_countNearer : Room := { frames := 5, cells := 0, slots := 0, locals := 106 }
set_option maxHeartbeats 4000000 in
set_option maxRecDepth 100000 in
theorem c_X11_countNearer {M : Mem} {τ : TT} {α : AT} {p q : Nat} (hC : CW τ α M) (hp : p < nP τ) (hq : q < nP τ) : CR mX11_countNearer rmX11_countNearer [.ref 2, .ref (α 0 p), .ref (α 0 q)] M (some (.int (nI (rkc τ p q (nP τ))))) := by
  refine am_of rfl rfl (ls := [some (.ref 2), some (.ref (α 0 p)), some (.ref (α 0 q)), none, none, none, none]) rfl ?_
  have h12 := hC.wp.1.1
  refine aw_aload1 0 dX11_countNearer_0 ?_
  refine aw_aload2 1 dX11_countNearer_1 ?_
  refine cr_s1 2 dX11_countNearer_2 (c_X11_likeness hC hp hq) ckS_RX11_264 cd_X11_likeness rfl (Nat.le_of_ble_eq_true rfl) ⟨⟨by decide, by decide⟩, by decide, by decide⟩ rfl ?_
  refine aw_istore3 5 dX11_countNearer_5 rfl ?_
  refine aw_ic0 6 dX11_countNearer_6 ?_
  refine aw_istore4 7 dX11_countNearer_7 rfl ?_
  refine aw_ic0 9 dX11_countNearer_9 ?_
  refine aw_istore5 10 dX11_countNearer_10 rfl ?_
  have LP12 : ∀ (dd : Nat) (r c : Nat) (z : Option Value), nP τ - r = dd → (r ≤ nP τ) → (c = rkc τ p q r) → AW mX11_countNearer rmX11_countNearer (fun r' M' => r' = (some (.int (nI (rkc τ p q (nP τ))))) ∧ M' = M) 12 [some (.ref 2), some (.ref (α 0 p)), some (.ref (α 0 q)), some (.int (lkn τ p q)), some (.int (nI c)), some (.int (nI r)), z] [] M 0 0 := by
    intro dd
    induction dd using Nat.strongRecOn with
    | _ dd ih12 =>
      intro r c z hdd hr hc
      refine aw_iload5 12 dX11_countNearer_12 ?_
      refine aw_aload0 14 dX11_countNearer_14 ?_
      refine aw_get 15 dX11_countNearer_15 ckF_RX11_92_11 hC.xo.1 (hC.xo.2.2.2.2.2.2.2.2.2.1.trans (congrArg Value.int hC.wp.1.2)) ?_
      refine aw_icmp_geN 18 85 (r) (nP τ) dX11_countNearer_18 (by decide) rfl rfl (by omega) (by omega) (fun h18 => ?_) (fun h18 => ?_)
      · have he : r = nP τ := by omega
        rw [he] at hc
        refine aw_iload4 85 dX11_countNearer_85 ?_
        refine aw_iret 87 dX11_countNearer_87 rfl (Nat.zero_le _) (Nat.zero_le _) ?_
        exact ⟨by rw [hc], rfl⟩
      · refine aw_iload5 21 dX11_countNearer_21 ?_
        refine aw_aload1 23 dX11_countNearer_23 ?_
        refine aw_get 24 dX11_countNearer_24 ckF_RX11_103_3 (hC.pc p hp).2.2.2.1 (hC.pc p hp).2.2.2.2.1 ?_
        refine aw_icmp_eqN 27 79 (r) (p) dX11_countNearer_27 (by decide) rfl rfl (by omega) (by omega) (fun h27 => ?_) (fun h27 => ?_)
        · refine aw_iinc5 79 (nI (r + 1)) dX11_countNearer_79 (nI_1 _) rfl ?_
          refine aw_goto 82 12 dX11_countNearer_82 (by decide) ?_
          exact ih12 _ (by omega) (r + 1) _ _ rfl (by omega) (by first | exact rk_n (fun z => z.1 h27) hc | exact rk_n (fun z => z.2.1 h36) hc | exact rk_y ⟨h27, h36, Or.inl h58⟩ hc | exact rk_n (fun z => z.2.2.elim h58 (fun y => h64 y.1)) hc | exact rk_n (fun z => z.2.2.elim h58 (fun y => absurd y.2 (by omega))) hc | exact rk_y ⟨h27, h36, Or.inr ⟨h64, h73⟩⟩ hc)
        · refine aw_iload5 30 dX11_countNearer_30 ?_
          refine aw_aload2 32 dX11_countNearer_32 ?_
          refine aw_get 33 dX11_countNearer_33 ckF_RX11_103_3 (hC.pc q hq).2.2.2.1 (hC.pc q hq).2.2.2.2.1 ?_
          refine aw_icmp_neN 36 42 (r) (q) dX11_countNearer_36 (by decide) rfl rfl (by omega) (by omega) (fun h36 => ?_) (fun h36 => ?_)
          · refine aw_aload1 42 dX11_countNearer_42 ?_
            refine aw_aload0 43 dX11_countNearer_43 ?_
            refine aw_get 44 dX11_countNearer_44 ckF_RX11_13_11 hC.xo.1 hC.xo.2.1 ?_
            refine aw_iload5 47 dX11_countNearer_47 ?_
            refine aw_aald 49 (r) dX11_countNearer_49 hC.ax.2.1 (by decide) (by decide) rfl (show r < 12 by omega) (by decide) (hC.pc r h18).2.2.1 ?_
            refine cr_s1 50 dX11_countNearer_50 (c_X11_likeness hC hp h18) ckS_RX11_264 cd_X11_likeness rfl (Nat.le_of_ble_eq_true rfl) ⟨⟨by decide, by decide⟩, by decide, by decide⟩ rfl ?_
            refine aw_istore6 53 dX11_countNearer_53 rfl ?_
            refine aw_iload6 55 dX11_countNearer_55 ?_
            refine aw_iload3 57 dX11_countNearer_57 ?_
            refine aw_icmp_lt 58 76 dX11_countNearer_58 (by decide) (fun h58 => ?_) (fun h58 => ?_)
            · refine aw_iinc4 76 (nI (c + 1)) dX11_countNearer_76 (nI_1 _) rfl ?_
              refine aw_iinc5 79 (nI (r + 1)) dX11_countNearer_79 (nI_1 _) rfl ?_
              refine aw_goto 82 12 dX11_countNearer_82 (by decide) ?_
              exact ih12 _ (by omega) (r + 1) _ _ rfl (by omega) (by first | exact rk_n (fun z => z.1 h27) hc | exact rk_n (fun z => z.2.1 h36) hc | exact rk_y ⟨h27, h36, Or.inl h58⟩ hc | exact rk_n (fun z => z.2.2.elim h58 (fun y => h64 y.1)) hc | exact rk_n (fun z => z.2.2.elim h58 (fun y => absurd y.2 (by omega))) hc | exact rk_y ⟨h27, h36, Or.inr ⟨h64, h73⟩⟩ hc)
            · refine aw_iload6 61 dX11_countNearer_61 ?_
              refine aw_iload3 63 dX11_countNearer_63 ?_
              refine aw_icmp_ne 64 79 dX11_countNearer_64 (by decide) (fun h64 => ?_) (fun h64 => ?_)
              · refine aw_iinc5 79 (nI (r + 1)) dX11_countNearer_79 (nI_1 _) rfl ?_
                refine aw_goto 82 12 dX11_countNearer_82 (by decide) ?_
                exact ih12 _ (by omega) (r + 1) _ _ rfl (by omega) (by first | exact rk_n (fun z => z.1 h27) hc | exact rk_n (fun z => z.2.1 h36) hc | exact rk_y ⟨h27, h36, Or.inl h58⟩ hc | exact rk_n (fun z => z.2.2.elim h58 (fun y => h64 y.1)) hc | exact rk_n (fun z => z.2.2.elim h58 (fun y => absurd y.2 (by omega))) hc | exact rk_y ⟨h27, h36, Or.inr ⟨h64, h73⟩⟩ hc)
              · refine aw_iload5 67 dX11_countNearer_67 ?_
                refine aw_aload2 69 dX11_countNearer_69 ?_
                refine aw_get 70 dX11_countNearer_70 ckF_RX11_103_3 (hC.pc q hq).2.2.2.1 (hC.pc q hq).2.2.2.2.1 ?_
                refine aw_icmp_geN 73 79 (r) (q) dX11_countNearer_73 (by decide) rfl rfl (by omega) (by omega) (fun h73 => ?_) (fun h73 => ?_)
                · refine aw_iinc5 79 (nI (r + 1)) dX11_countNearer_79 (nI_1 _) rfl ?_
                  refine aw_goto 82 12 dX11_countNearer_82 (by decide) ?_
                  exact ih12 _ (by omega) (r + 1) _ _ rfl (by omega) (by first | exact rk_n (fun z => z.1 h27) hc | exact rk_n (fun z => z.2.1 h36) hc | exact rk_y ⟨h27, h36, Or.inl h58⟩ hc | exact rk_n (fun z => z.2.2.elim h58 (fun y => h64 y.1)) hc | exact rk_n (fun z => z.2.2.elim h58 (fun y => absurd y.2 (by omega))) hc | exact rk_y ⟨h27, h36, Or.inr ⟨h64, h73⟩⟩ hc)
                · refine aw_iinc4 76 (nI (c + 1)) dX11_countNearer_76 (nI_1 _) rfl ?_
                  refine aw_iinc5 79 (nI (r + 1)) dX11_countNearer_79 (nI_1 _) rfl ?_
                  refine aw_goto 82 12 dX11_countNearer_82 (by decide) ?_
                  exact ih12 _ (by omega) (r + 1) _ _ rfl (by omega) (by first | exact rk_n (fun z => z.1 h27) hc | exact rk_n (fun z => z.2.1 h36) hc | exact rk_y ⟨h27, h36, Or.inl h58⟩ hc | exact rk_n (fun z => z.2.2.elim h58 (fun y => h64 y.1)) hc | exact rk_n (fun z => z.2.2.elim h58 (fun y => absurd y.2 (by omega))) hc | exact rk_y ⟨h27, h36, Or.inr ⟨h64, h73⟩⟩ hc)
          · refine aw_goto 39 79 dX11_countNearer_39 (by decide) ?_
            refine aw_iinc5 79 (nI (r + 1)) dX11_countNearer_79 (nI_1 _) rfl ?_
            refine aw_goto 82 12 dX11_countNearer_82 (by decide) ?_
            exact ih12 _ (by omega) (r + 1) _ _ rfl (by omega) (by first | exact rk_n (fun z => z.1 h27) hc | exact rk_n (fun z => z.2.1 h36) hc | exact rk_y ⟨h27, h36, Or.inl h58⟩ hc | exact rk_n (fun z => z.2.2.elim h58 (fun y => h64 y.1)) hc | exact rk_n (fun z => z.2.2.elim h58 (fun y => absurd y.2 (by omega))) hc | exact rk_y ⟨h27, h36, Or.inr ⟨h64, h73⟩⟩ hc)
  exact LP12 _ 0 0 none rfl (by omega) rfl

def rmX11_nearest : Room := { frames := 6, cells := 0, slots := 0, locals := 132 }
set_option maxHeartbeats 4000000 in
set_option maxRecDepth 100000 in
theorem n_X11_nearest {M0 : Mem} {τ : TT} {α : AT} {v w : Int32} (hC : CW τ α M0) (hno : ¬ ir v (nP τ)) : CK mX11_nearest rmX11_nearest [.int v, .int w] M0 (.int (-1)) (τ) := by
  refine am_of rfl rfl (ls := [some (.ref 2), some (.int v), some (.int w), none, none]) rfl ?_
  suffices HH : ∀ M, (CW τ α M) → (Kr M0 M) → AW mX11_nearest rmX11_nearest (fun r' M' => r' = (some (.int (-1))) ∧ (fun M2 => Kr M0 M2 ∧ ∃ α2, CW (τ) α2 M2) M') 0 [some (.ref 2), some (.int v), some (.int w), none, none] [] M 0 0 from HH M0 hC (Kr.rf _)
  intro M hC hR
  refine aw_aload0 0 dX11_nearest_0 ?_
  refine aw_iload1 1 dX11_nearest_1 ?_
  refine cr_v1 2 dX11_nearest_2 (n_X11_pictureAt hC hno) ckV_RX11_106 cd_X11_pictureAt hC.xo.1 vc11 rfl rfl (Nat.le_of_ble_eq_true rfl) ⟨⟨by decide, by decide⟩, by decide, by decide⟩ rfl ?_
  refine aw_astoreN3 5 dX11_nearest_5 rfl ?_
  refine aw_aloadN3 6 dX11_nearest_6 ?_
  refine aw_ifnullN 7 20 dX11_nearest_7 (by decide) ?_
  refine aw_icm1 20 dX11_nearest_20 ?_
  refine aw_iret 21 dX11_nearest_21 rfl (Nat.zero_le _) (Nat.zero_le _) ?_
  exact ⟨rfl, hR, α, hC⟩

set_option maxHeartbeats 4000000 in
set_option maxRecDepth 100000 in
theorem n2_X11_nearest {M0 : Mem} {τ : TT} {α : AT} {p : Nat} {w : Int32} (hC : CW τ α M0) (hp : p < nP τ) (hw : ¬ irg w 0 10) : CK mX11_nearest rmX11_nearest [.int (nI p), .int w] M0 (.int (-1)) (τ) := by
  refine am_of rfl rfl (ls := [some (.ref 2), some (.int (nI p)), some (.int w), none, none]) rfl ?_
  suffices HH : ∀ M, (CW τ α M) → (Kr M0 M) → AW mX11_nearest rmX11_nearest (fun r' M' => r' = (some (.int (-1))) ∧ (fun M2 => Kr M0 M2 ∧ ∃ α2, CW (τ) α2 M2) M') 0 [some (.ref 2), some (.int (nI p)), some (.int w), none, none] [] M 0 0 from HH M0 hC (Kr.rf _)
  intro M hC hR
  refine aw_aload0 0 dX11_nearest_0 ?_
  refine aw_iload1 1 dX11_nearest_1 ?_
  refine cr_v1 2 dX11_nearest_2 (c_X11_pictureAt hC hp) ckV_RX11_106 cd_X11_pictureAt hC.xo.1 vc11 rfl rfl (Nat.le_of_ble_eq_true rfl) ⟨⟨by decide, by decide⟩, by decide, by decide⟩ rfl ?_
  refine aw_astore3 5 dX11_nearest_5 rfl ?_
  refine aw_aload3 6 dX11_nearest_6 ?_
  refine aw_ifnull 7 dX11_nearest_7 ?_
  refine aw_iload2 10 dX11_nearest_10 ?_
  refine aw_ic0 11 dX11_nearest_11 ?_
  refine aw_bipush 12 10 dX11_nearest_12 (by decide) ?_
  refine cr_s1 14 dX11_nearest_14 (cr_sd (c_isInZ (0) (10) (by decide) (by decide))) ckS_RX11_72 cd_X11_isIn rfl (Nat.le_of_ble_eq_true rfl) ⟨⟨by decide, by decide⟩, by decide, by decide⟩ rfl ?_
  refine aw_ifne_b 17 22 dX11_nearest_17 (by decide) (fun h17 => ?_) (fun h17 => ?_)
  · exact absurd h17 hw
  · refine aw_icm1 20 dX11_nearest_20 ?_
    refine aw_iret 21 dX11_nearest_21 rfl (Nat.zero_le _) (Nat.zero_le _) ?_
    exact ⟨rfl, hR, α, hC⟩

set_option maxHeartbeats 4000000 in
set_option maxRecDepth 100000 in
theorem c_X11_nearest {M0 : Mem} {τ : TT} {α : AT} {p k b : Nat} (hC : CW τ α M0) (hp : p < nP τ) (hk : k ≤ 10) (hb : b < nP τ) (hbp : b ≠ p) (hr : rkc τ p b (nP τ) = k) (hu : ∀ q, q < nP τ → q ≠ p → rkc τ p q (nP τ) = k → q = b) : CK mX11_nearest rmX11_nearest [.int (nI p), .int (nI k)] M0 (.int (nI b)) (τ) := by
  refine am_of rfl rfl (ls := [some (.ref 2), some (.int (nI p)), some (.int (nI k)), none, none]) rfl ?_
  suffices HH : ∀ M, (CW τ α M) → (Kr M0 M) → AW mX11_nearest rmX11_nearest (fun r' M' => r' = (some (.int (nI b))) ∧ (fun M2 => Kr M0 M2 ∧ ∃ α2, CW (τ) α2 M2) M') 0 [some (.ref 2), some (.int (nI p)), some (.int (nI k)), none, none] [] M 0 0 from HH M0 hC (Kr.rf _)
  intro M hC hR
  have h12 := hC.wp.1.1
  have hrl := fun q => cP_le (rkF τ p q) (nP τ)
  refine aw_aload0 0 dX11_nearest_0 ?_
  refine aw_iload1 1 dX11_nearest_1 ?_
  refine cr_v1 2 dX11_nearest_2 (c_X11_pictureAt hC hp) ckV_RX11_106 cd_X11_pictureAt hC.xo.1 vc11 rfl rfl (Nat.le_of_ble_eq_true rfl) ⟨⟨by decide, by decide⟩, by decide, by decide⟩ rfl ?_
  refine aw_astore3 5 dX11_nearest_5 rfl ?_
  refine aw_aload3 6 dX11_nearest_6 ?_
  refine aw_ifnull 7 dX11_nearest_7 ?_
  refine aw_iload2 10 dX11_nearest_10 ?_
  refine aw_ic0 11 dX11_nearest_11 ?_
  refine aw_bipush 12 10 dX11_nearest_12 (by decide) ?_
  refine cr_s1 14 dX11_nearest_14 (cr_sd (c_isInZ (0) (10) (by decide) (by decide))) ckS_RX11_72 cd_X11_isIn rfl (Nat.le_of_ble_eq_true rfl) ⟨⟨by decide, by decide⟩, by decide, by decide⟩ rfl ?_
  refine aw_ifne_b 17 22 dX11_nearest_17 (by decide) (fun h17 => ?_) (fun h17 => ?_)
  · refine aw_ic0 22 dX11_nearest_22 ?_
    refine aw_istore4 23 dX11_nearest_23 rfl ?_
    have LP25 : ∀ (dd : Nat) (q : Nat), nP τ - q = dd → (q ≤ b) → AW mX11_nearest rmX11_nearest (fun r' M' => r' = (some (.int (nI b))) ∧ (fun M2 => Kr M0 M2 ∧ ∃ α2, CW (τ) α2 M2) M') 25 [some (.ref 2), some (.int (nI p)), some (.int (nI k)), some (.ref (α 0 p)), some (.int (nI q))] [] M 0 0 := by
      intro dd
      induction dd using Nat.strongRecOn with
      | _ dd ih25 =>
        intro q hdd hq
        refine aw_iload4 25 dX11_nearest_25 ?_
        refine aw_aload0 27 dX11_nearest_27 ?_
        refine aw_get 28 dX11_nearest_28 ckF_RX11_92_11 hC.xo.1 (hC.xo.2.2.2.2.2.2.2.2.2.1.trans (congrArg Value.int hC.wp.1.2)) ?_
        refine aw_icmp_geN 31 65 (q) (nP τ) dX11_nearest_31 (by decide) rfl rfl (by omega) (by omega) (fun h31 => ?_) (fun h31 => ?_)
        · exact absurd h31 (by omega)
        · refine aw_iload4 34 dX11_nearest_34 ?_
          refine aw_iload1 36 dX11_nearest_36 ?_
          refine aw_icmp_eqN 37 59 (q) (p) dX11_nearest_37 (by decide) rfl rfl (by omega) (by omega) (fun h37 => ?_) (fun h37 => ?_)
          · refine aw_iinc4 59 (nI (q + 1)) dX11_nearest_59 (nI_1 _) rfl ?_
            refine aw_goto 62 25 dX11_nearest_62 (by decide) ?_
            exact ih25 _ (by omega) (q + 1) rfl (by rcases Nat.lt_or_ge q b with z | z; exact z; exact absurd (show q = b by omega) (fun e => by subst e; first | exact hbp h37 | exact h53 hr))
          · refine aw_aload0 40 dX11_nearest_40 ?_
            refine aw_aload3 41 dX11_nearest_41 ?_
            refine aw_aload0 42 dX11_nearest_42 ?_
            refine aw_get 43 dX11_nearest_43 ckF_RX11_13_11 hC.xo.1 hC.xo.2.1 ?_
            refine aw_iload4 46 dX11_nearest_46 ?_
            refine aw_aald 48 (q) dX11_nearest_48 hC.ax.2.1 (by decide) (by decide) rfl (show q < 12 by omega) (by decide) (hC.pc q h31).2.2.1 ?_
            have hrq : rkc τ p q (nP τ) ≤ nP τ := hrl q
            refine cr_v1 49 dX11_nearest_49 (c_X11_countNearer hC hp h31) ckV_RX11_268 cd_X11_countNearer hC.xo.1 vc11 rfl rfl (Nat.le_of_ble_eq_true rfl) ⟨⟨by decide, by decide⟩, by decide, by decide⟩ rfl ?_
            refine aw_iload2 52 dX11_nearest_52 ?_
            refine aw_icmp_neN 53 59 (rkc τ p q (nP τ)) (k) dX11_nearest_53 (by decide) rfl rfl (by omega) (by omega) (fun h53 => ?_) (fun h53 => ?_)
            · refine aw_iinc4 59 (nI (q + 1)) dX11_nearest_59 (nI_1 _) rfl ?_
              refine aw_goto 62 25 dX11_nearest_62 (by decide) ?_
              exact ih25 _ (by omega) (q + 1) rfl (by rcases Nat.lt_or_ge q b with z | z; exact z; exact absurd (show q = b by omega) (fun e => by subst e; first | exact hbp h37 | exact h53 hr))
            · refine aw_iload4 56 dX11_nearest_56 ?_
              refine aw_iret 58 dX11_nearest_58 rfl (Nat.zero_le _) (Nat.zero_le _) ?_
              exact ⟨by rw [hu q h31 h37 h53], hR, α, hC⟩
    exact LP25 _ 0 rfl (by omega)
  · exact absurd (irg_nI (b := 10) (by decide) hk) h17

set_option maxHeartbeats 4000000 in
set_option maxRecDepth 100000 in
theorem n3_X11_nearest {M0 : Mem} {τ : TT} {α : AT} {p k : Nat} (hC : CW τ α M0) (hp : p < nP τ) (hk : k ≤ 10) (hu : ∀ q, q < nP τ → q ≠ p → rkc τ p q (nP τ) ≠ k) : CK mX11_nearest rmX11_nearest [.int (nI p), .int (nI k)] M0 (.int (-9)) (τ) := by
  refine am_of rfl rfl (ls := [some (.ref 2), some (.int (nI p)), some (.int (nI k)), none, none]) rfl ?_
  suffices HH : ∀ M, (CW τ α M) → (Kr M0 M) → AW mX11_nearest rmX11_nearest (fun r' M' => r' = (some (.int (-9))) ∧ (fun M2 => Kr M0 M2 ∧ ∃ α2, CW (τ) α2 M2) M') 0 [some (.ref 2), some (.int (nI p)), some (.int (nI k)), none, none] [] M 0 0 from HH M0 hC (Kr.rf _)
  intro M hC hR
  have h12 := hC.wp.1.1
  have hrl := fun q => cP_le (rkF τ p q) (nP τ)
  refine aw_aload0 0 dX11_nearest_0 ?_
  refine aw_iload1 1 dX11_nearest_1 ?_
  refine cr_v1 2 dX11_nearest_2 (c_X11_pictureAt hC hp) ckV_RX11_106 cd_X11_pictureAt hC.xo.1 vc11 rfl rfl (Nat.le_of_ble_eq_true rfl) ⟨⟨by decide, by decide⟩, by decide, by decide⟩ rfl ?_
  refine aw_astore3 5 dX11_nearest_5 rfl ?_
  refine aw_aload3 6 dX11_nearest_6 ?_
  refine aw_ifnull 7 dX11_nearest_7 ?_
  refine aw_iload2 10 dX11_nearest_10 ?_
  refine aw_ic0 11 dX11_nearest_11 ?_
  refine aw_bipush 12 10 dX11_nearest_12 (by decide) ?_
  refine cr_s1 14 dX11_nearest_14 (cr_sd (c_isInZ (0) (10) (by decide) (by decide))) ckS_RX11_72 cd_X11_isIn rfl (Nat.le_of_ble_eq_true rfl) ⟨⟨by decide, by decide⟩, by decide, by decide⟩ rfl ?_
  refine aw_ifne_b 17 22 dX11_nearest_17 (by decide) (fun h17 => ?_) (fun h17 => ?_)
  · refine aw_ic0 22 dX11_nearest_22 ?_
    refine aw_istore4 23 dX11_nearest_23 rfl ?_
    have LP25 : ∀ (dd : Nat) (q : Nat), nP τ - q = dd → (q ≤ nP τ) → AW mX11_nearest rmX11_nearest (fun r' M' => r' = (some (.int (-9))) ∧ (fun M2 => Kr M0 M2 ∧ ∃ α2, CW (τ) α2 M2) M') 25 [some (.ref 2), some (.int (nI p)), some (.int (nI k)), some (.ref (α 0 p)), some (.int (nI q))] [] M 0 0 := by
      intro dd
      induction dd using Nat.strongRecOn with
      | _ dd ih25 =>
        intro q hdd hq
        refine aw_iload4 25 dX11_nearest_25 ?_
        refine aw_aload0 27 dX11_nearest_27 ?_
        refine aw_get 28 dX11_nearest_28 ckF_RX11_92_11 hC.xo.1 (hC.xo.2.2.2.2.2.2.2.2.2.1.trans (congrArg Value.int hC.wp.1.2)) ?_
        refine aw_icmp_geN 31 65 (q) (nP τ) dX11_nearest_31 (by decide) rfl rfl (by omega) (by omega) (fun h31 => ?_) (fun h31 => ?_)
        · refine aw_bipush 65 (-9) dX11_nearest_65 (by decide) ?_
          refine aw_iret 67 dX11_nearest_67 rfl (Nat.zero_le _) (Nat.zero_le _) ?_
          exact ⟨rfl, hR, α, hC⟩
        · refine aw_iload4 34 dX11_nearest_34 ?_
          refine aw_iload1 36 dX11_nearest_36 ?_
          refine aw_icmp_eqN 37 59 (q) (p) dX11_nearest_37 (by decide) rfl rfl (by omega) (by omega) (fun h37 => ?_) (fun h37 => ?_)
          · refine aw_iinc4 59 (nI (q + 1)) dX11_nearest_59 (nI_1 _) rfl ?_
            refine aw_goto 62 25 dX11_nearest_62 (by decide) ?_
            exact ih25 _ (by omega) (q + 1) rfl (by omega)
          · refine aw_aload0 40 dX11_nearest_40 ?_
            refine aw_aload3 41 dX11_nearest_41 ?_
            refine aw_aload0 42 dX11_nearest_42 ?_
            refine aw_get 43 dX11_nearest_43 ckF_RX11_13_11 hC.xo.1 hC.xo.2.1 ?_
            refine aw_iload4 46 dX11_nearest_46 ?_
            refine aw_aald 48 (q) dX11_nearest_48 hC.ax.2.1 (by decide) (by decide) rfl (show q < 12 by omega) (by decide) (hC.pc q h31).2.2.1 ?_
            have hrq : rkc τ p q (nP τ) ≤ nP τ := hrl q
            refine cr_v1 49 dX11_nearest_49 (c_X11_countNearer hC hp h31) ckV_RX11_268 cd_X11_countNearer hC.xo.1 vc11 rfl rfl (Nat.le_of_ble_eq_true rfl) ⟨⟨by decide, by decide⟩, by decide, by decide⟩ rfl ?_
            refine aw_iload2 52 dX11_nearest_52 ?_
            refine aw_icmp_neN 53 59 (rkc τ p q (nP τ)) (k) dX11_nearest_53 (by decide) rfl rfl (by omega) (by omega) (fun h53 => ?_) (fun h53 => ?_)
            · refine aw_iinc4 59 (nI (q + 1)) dX11_nearest_59 (nI_1 _) rfl ?_
              refine aw_goto 62 25 dX11_nearest_62 (by decide) ?_
              exact ih25 _ (by omega) (q + 1) rfl (by omega)
            · exact absurd h53 (hu q h31 h37)
    exact LP25 _ 0 rfl (by omega)
  · exact absurd (irg_nI (b := 10) (by decide) hk) h17

