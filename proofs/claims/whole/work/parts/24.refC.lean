/-! acts on a hand alone: a row of 16 squares, how wide, how high (gen/refC.py) -/
abbrev HS : Type := (Nat → Int32) × Nat × Nat
def blG (g : Nat → Int32) (x y w : Nat) (s : Int32) : Nat → Nat → Int32
  | 0 => g
  | k + 1 => fun b => if b = pPl x y w k then s else blG g x y w s k b
def ctG (g : Nat → Int32) (x y w : Nat) : Nat → Nat → Int32
  | 0 => g
  | k + 1 => fun b => if b = dPl w k then ctG g x y w k (pPl x y w k) else ctG g x y w k b
def smG (g : Nat → Int32) (x y w : Nat) : Nat → Int32
  | 0 => 0
  | k + 1 => smG g x y w k + g (pPl x y w k)
def trG (g : Nat → Int32) (w H : Nat) : Nat → Nat → Int32
  | 0 => g
  | k + 1 => fun b => if b = dPl w k then g (k / w + 4 * (H - 1 - k % w)) else trG g w H k b
abbrev fitH (u : HS) (x y w h : Nat) : Prop := 1 ≤ w ∧ 1 ≤ h ∧ x + w ≤ u.2.1 ∧ y + h ≤ u.2.2
def stH (A : Nat → Int32) (a : Nat) (u : HS) : Option HS :=
  if A a = 99 ∨ A a = 98 then
    if fitH u (dgt A (a + 1)) (dgt A (a + 2)) (dgt A (a + 3)) (dgt A (a + 4)) then
      some (if A a = 98 then (blG u.1 (dgt A (a + 1)) (dgt A (a + 2)) (dgt A (a + 3)) (smG u.1 (dgt A (a + 1)) (dgt A (a + 2)) (dgt A (a + 3)) (dgt A (a + 3) * dgt A (a + 4)) / nI (dgt A (a + 3) * dgt A (a + 4))) (dgt A (a + 3) * dgt A (a + 4)), u.2.1, u.2.2)
        else (ctG u.1 (dgt A (a + 1)) (dgt A (a + 2)) (dgt A (a + 3)) (dgt A (a + 3) * dgt A (a + 4)), dgt A (a + 3), dgt A (a + 4)))
    else none
  else if A a = 116 then some (trG u.1 u.2.2 u.2.2 (u.2.2 * u.2.1), u.2.2, u.2.1) else some (fun b => tnt (u.1 b) (A a) (A (a + 1)), u.2.1, u.2.2)
def dH (A : Nat → Int32) (fr : Nat) (u : HS) : Nat → Option HS
  | 0 => some u
  | n + 1 => (dH A fr u n).bind (stH A (fr + 5 * n))
/-- the table's hand is this one -/
def HR (σ : TT) (u : HS) : Prop := (∀ b, b < 16 → σ 11 b = u.1 b) ∧ hWd σ = u.2.1 ∧ hHg σ = u.2.2
theorem pPl_lt {x y w h W H k : Nat} (hok : 1 ≤ w ∧ 1 ≤ h ∧ x + w ≤ W ∧ y + h ≤ H) (hW : W ≤ 4) (hH : H ≤ 4) (hk : k < w * h) : pPl x y w k < 16 ∧ dPl w k < 16 ∧ k % w < w ∧ k / w < h := by
  have h1 : k % w < w := Nat.mod_lt _ (by omega)
  have h2 : k / w < h := Nat.div_lt_of_lt_mul hk
  unfold pPl dPl
  omega
theorem sm_rel {σ : TT} {g : Nat → Int32} {x y w h W H : Nat} (hg : ∀ b, b < 16 → σ 11 b = g b) (hok : 1 ≤ w ∧ 1 ≤ h ∧ x + w ≤ W ∧ y + h ≤ H) (hW : W ≤ 4) (hH : H ≤ 4) : ∀ n, n ≤ w * h → smH σ x y w n = smG g x y w n
  | 0, _ => rfl
  | n + 1, hn => by
    show smH σ x y w n + _ = smG g x y w n + _
    rw [sm_rel hg hok hW hH n (by omega), hg _ (pPl_lt hok hW hH (by omega)).1]
theorem bl_rel {σ : TT} {g : Nat → Int32} {x y w : Nat} {s : Int32} (hg : ∀ b, b < 16 → σ 11 b = g b) : ∀ n b, b < 16 → blT σ x y w s n 11 b = blG g x y w s n b
  | 0, b, hb => hg b hb
  | n + 1, b, hb => by
    show tu _ _ _ _ 11 b = ite _ _ _
    by_cases h : b = pPl x y w n
    · subst h; rw [tu_at, if_pos rfl]
    · rw [tu_nk h, if_neg h]; exact bl_rel hg n b hb
theorem ct_rel {σ : TT} {g : Nat → Int32} {x y w h W H : Nat} (hg : ∀ b, b < 16 → σ 11 b = g b) (hok : 1 ≤ w ∧ 1 ≤ h ∧ x + w ≤ W ∧ y + h ≤ H) (hW : W ≤ 4) (hH : H ≤ 4) : ∀ n, n ≤ w * h → ∀ b, b < 16 → ctT σ x y w n 11 b = ctG g x y w n b
  | 0, _, b, hb => hg b hb
  | n + 1, hn, b, hb => by
    show tu _ _ _ _ 11 b = ite _ _ _
    by_cases h : b = dPl w n
    · subst h; rw [tu_at, if_pos rfl]; exact ct_rel hg hok hW hH n (by omega) _ (pPl_lt hok hW hH (by omega)).1
    · rw [tu_nk h, if_neg h]; exact ct_rel hg hok hW hH n (by omega) b hb
theorem tr_rel {σ : TT} {g : Nat → Int32} {W H : Nat} (hg : ∀ b, b < 16 → σ 11 b = g b) (hW : 1 ≤ W ∧ W ≤ 4) (hH : 1 ≤ H ∧ H ≤ 4) : ∀ n, n ≤ H * W → ∀ b, b < 16 → trT σ H H n 11 b = trG g H H n b
  | 0, _, b, hb => by show ov _ _ _ _ _ 11 b = _; rw [ov_ne (by decide)]; exact hg b hb
  | n + 1, hn, b, hb => by
    show tu _ _ _ _ 11 b = ite _ _ _
    by_cases h : b = dPl H n
    · subst h
      have h1 : n % H < H := Nat.mod_lt _ (by omega)
      have h2 : n / H < W := Nat.div_lt_of_lt_mul (by omega)
      rw [tu_at, if_pos rfl]
      exact hg _ (by omega)
    · rw [tu_nk h, if_neg h]; exact tr_rel hg hW hH n (by omega) b hb
/-- one act: the table's and the hand's -/
theorem stp_rel {f a : Nat} {σ : TT} {u : HS} (h : HR σ u) (hw : WHd σ) (hf : f = 7 ∨ f = 22) : (∀ u', stH (σ f) a u = some u' → (stp f a σ).1 = true ∧ HR (stp f a σ).2 u') ∧ (stH (σ f) a u = none → (stp f a σ).1 = false) := by
  obtain ⟨hg, h1, h2⟩ := h
  unfold stH stp
  by_cases hc : σ f a = 99 ∨ σ f a = 98
  · rw [if_pos hc, if_pos hc]
    by_cases hok : fitP σ (dgt (σ f) (a + 1)) (dgt (σ f) (a + 2)) (dgt (σ f) (a + 3)) (dgt (σ f) (a + 4))
    · have hok2 : fitH u (dgt (σ f) (a + 1)) (dgt (σ f) (a + 2)) (dgt (σ f) (a + 3)) (dgt (σ f) (a + 4)) := by unfold fitH; rw [← h1, ← h2]; exact hok
      rw [if_pos hok, if_pos hok2]
      refine ⟨fun u' hu => ?_, fun q => by cases q⟩
      cases hu
      refine ⟨rfl, ?_⟩
      by_cases h98 : σ f a = 98
      · rw [if_pos h98, if_pos h98]
        refine ⟨fun b hb => ?_, ?_, ?_⟩
        · show tBl _ _ _ _ _ 11 b = _
          unfold tBl
          rw [sm_rel hg hok hw.1.2.2 hw.2.2.2 _ (Nat.le_refl _)]
          exact bl_rel hg _ b hb
        · show hWd (tBl _ _ _ _ _) = _; unfold hWd; rw [tBl_ne (by decide)]; exact h1
        · show hHg (tBl _ _ _ _ _) = _; unfold hHg; rw [tBl_ne (by decide)]; exact h2
      · rw [if_neg h98, if_neg h98]
        refine ⟨fun b hb => ?_, ?_, ?_⟩
        · show tCt _ _ _ _ _ 11 b = _
          unfold tCt
          rw [tu_ne (by decide), tu_ne (by decide)]
          exact ct_rel hg hok hw.1.2.2 hw.2.2.2 _ (Nat.le_refl _) b hb
        · show hWd (tCt _ _ _ _ _) = _
          unfold hWd tCt
          rw [tu_ne (by decide), tu_at, nI_clamp]
          have := hok.2.2.1; have := hw.1.2.2; omega
        · show hHg (tCt _ _ _ _ _) = _
          unfold hHg tCt
          rw [tu_at, nI_clamp]
          have := hok.2.2.2; have := hw.2.2.2; omega
    · have hok2 : ¬ fitH u (dgt (σ f) (a + 1)) (dgt (σ f) (a + 2)) (dgt (σ f) (a + 3)) (dgt (σ f) (a + 4)) := by unfold fitH; rw [← h1, ← h2]; exact hok
      rw [if_neg hok, if_neg hok2]
      exact ⟨fun u' q => (by cases q), fun _ => rfl⟩
  · rw [if_neg hc, if_neg hc]
    by_cases ht : σ f a = 116
    · rw [if_pos ht, if_pos ht]
      refine ⟨fun u' hu => ?_, fun q => by cases q⟩
      cases hu
      refine ⟨rfl, fun b hb => ?_, ?_, ?_⟩
      · show tTr _ _ _ 11 b = _
        unfold tTr
        rw [tu_ne (by decide), tu_ne (by decide), ← h1, ← h2]
        exact tr_rel hg hw.1.2 hw.2.2 _ (Nat.le_refl _) b hb
      · show hWd (tTr _ _ _) = _
        unfold tTr
        unfold hWd
        rw [tu_ne (by decide), tu_at, nI_clamp (by have := hw.2.2.2; omega)]
        exact h2
      · show hHg (tTr _ _ _) = _
        unfold tTr
        unfold hHg
        rw [tu_at, nI_clamp (by have := hw.1.2.2; omega)]
        exact h1
    · rw [if_neg ht, if_neg ht]
      refine ⟨fun u' hu => ?_, fun q => by cases q⟩
      cases hu
      refine ⟨rfl, fun b hb => ?_, ?_, ?_⟩
      · show tTn _ _ _ 11 b = _
        unfold tTn
        rw [ov_in (by omega), hg b hb]
      · show hWd (tTn _ _ _) = _; unfold hWd tTn; rw [ov_ne (by decide)]; exact h1
      · show hHg (tTn _ _ _) = _; unfold hHg tTn; rw [ov_ne (by decide)]; exact h2
theorem dAs_rel {f fr : Nat} {τ : TT} {u : HS} (h : HR τ u) (hw : WHd τ) (hf : f = 7 ∨ f = 22) : ∀ n, (∀ u', dH (τ f) fr u n = some u' → (dAs f fr τ n).1 = true ∧ HR (dAs f fr τ n).2 u') ∧ (dH (τ f) fr u n = none → (dAs f fr τ n).1 = false)
  | 0 => ⟨fun u' hu => (by cases hu; exact ⟨rfl, h⟩), fun q => by cases q⟩
  | n + 1 => by
    obtain ⟨i1, i2⟩ := dAs_rel h hw hf n
    have hne := dAs_ne (f := f) (fr := fr) (τ := τ) (n := n) (i := f) (by omega)
    have hwn := dAs_WH (f := f) (fr := fr) (n := n) hw
    show (∀ u', (dH (τ f) fr u n).bind _ = some u' → (if (dAs f fr τ n).1 = true then stp f (fr + 5 * n) (dAs f fr τ n).2 else dAs f fr τ n).1 = true ∧ HR (if (dAs f fr τ n).1 = true then stp f (fr + 5 * n) (dAs f fr τ n).2 else dAs f fr τ n).2 u') ∧ ((dH (τ f) fr u n).bind _ = none → (if (dAs f fr τ n).1 = true then stp f (fr + 5 * n) (dAs f fr τ n).2 else dAs f fr τ n).1 = false)
    cases hd : dH (τ f) fr u n with
    | none =>
      have hff := i2 hd
      rw [if_neg (by rw [hff]; exact Bool.false_ne_true)]
      exact ⟨fun u' q => (by cases q), fun _ => hff⟩
    | some v =>
      obtain ⟨j1, j2⟩ := i1 v hd
      rw [if_pos j1]
      have := stp_rel (a := fr + 5 * n) j2 hwn hf
      rw [hne] at this
      exact this
/-- a picture as a hand -/
def hOf (τ : TT) (p : Nat) : HS := (fun b => τ 4 (16 * p + b), wd τ p, hg τ p)
theorem tih_ne {τ : TT} {p i : Nat} (h : i ≠ 9 ∧ i ≠ 10 ∧ i ≠ 11) : tih τ p i = τ i := by
  unfold tih
  rw [ov_ne h.2.2, tu_ne h.2.1, tu_ne h.1]
theorem tih_HR {τ : TT} {p : Nat} (hw : WP τ) (hp : p < nP τ) : HR (tih τ p) (hOf τ p) ∧ WHd (tih τ p) := by
  have h1 := (hw.2 p hp).1
  have h2 := (hw.2 p hp).2
  have e1 : tih τ p 9 0 = nI (wd τ p) := by unfold tih; rw [ov_ne (by decide), tu_ne (by decide), tu_at]; exact h1.2.2
  have e2 : tih τ p 10 0 = nI (hg τ p) := by unfold tih; rw [ov_ne (by decide), tu_at]; exact h2.2.2
  have := WHd.of e1 e2 ⟨h1.1, h1.2.1⟩ ⟨h2.1, h2.2.1⟩
  exact ⟨⟨fun b hb => ov_in (by omega), this.2.1, this.2.2⟩, this.1⟩

