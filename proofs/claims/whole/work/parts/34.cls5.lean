/-! the workshop does what the list of acts says (gen/cls5.py) -/
def brG (u : HS) : Nat → Int32 := fun k => if k % 4 < u.2.1 ∧ k / 4 < u.2.2 then u.1 k else -1
def HSk (u : HS) : Prop := (1 ≤ u.2.1 ∧ u.2.1 ≤ 4) ∧ (1 ≤ u.2.2 ∧ u.2.2 ≤ 4) ∧ ∀ k, k < 16 → k % 4 < u.2.1 → k / 4 < u.2.2 → irg (u.1 k) 0 99
theorem irg_cs {v : Int32} (h : irg v 0 99) : ∃ k : Nat, k ≤ 99 ∧ v = nI k := by
  obtain ⟨k, h1, h2⟩ := ir_of (v := v) (n := 100) ⟨h.1, by have := h.2; omega⟩ (by decide)
  exact ⟨k, by omega, h2⟩
theorem irg_mk {k : Nat} (h : k ≤ 99) : irg (nI k) 0 99 := irg_nI (b := 99) (by decide) h
theorem ctG_c {g : Nat → Int32} {x y w : Nat} (hw : 1 ≤ w ∧ x + w ≤ 4) : ∀ n b, ctG g x y w n b = if b % 4 < w ∧ (b / 4) * w + b % 4 < n then g (x + b % 4 + 4 * (y + b / 4)) else g b := by
  intro n
  induction n with
  | zero => intro b; rw [if_neg (by omega)]; rfl
  | succ n ih =>
    intro b
    show (if b = dPl w n then ctG g x y w n (pPl x y w n) else ctG g x y w n b) = _
    rw [ih b, ih (pPl x y w n)]
    unfold dPl pPl
    rcases (show w = 1 ∨ w = 2 ∨ w = 3 ∨ w = 4 by omega) with rfl | rfl | rfl | rfl
    · by_cases e : b = n % 1 + 4 * (n / 1)
      · rw [if_pos e, if_neg (by omega), if_pos (by omega)]
        congr 1
        omega
      · rw [if_neg e]
        by_cases c : b % 4 < 1 ∧ (b / 4) * 1 + b % 4 < n
        · rw [if_pos c, if_pos (by omega)]
        · rw [if_neg c, if_neg (by omega)]
    · by_cases e : b = n % 2 + 4 * (n / 2)
      · rw [if_pos e, if_neg (by omega), if_pos (by omega)]
        congr 1
        omega
      · rw [if_neg e]
        by_cases c : b % 4 < 2 ∧ (b / 4) * 2 + b % 4 < n
        · rw [if_pos c, if_pos (by omega)]
        · rw [if_neg c, if_neg (by omega)]
    · by_cases e : b = n % 3 + 4 * (n / 3)
      · rw [if_pos e, if_neg (by omega), if_pos (by omega)]
        congr 1
        omega
      · rw [if_neg e]
        by_cases c : b % 4 < 3 ∧ (b / 4) * 3 + b % 4 < n
        · rw [if_pos c, if_pos (by omega)]
        · rw [if_neg c, if_neg (by omega)]
    · by_cases e : b = n % 4 + 4 * (n / 4)
      · rw [if_pos e, if_neg (by omega), if_pos (by omega)]
        congr 1
        omega
      · rw [if_neg e]
        by_cases c : b % 4 < 4 ∧ (b / 4) * 4 + b % 4 < n
        · rw [if_pos c, if_pos (by omega)]
        · rw [if_neg c, if_neg (by omega)]
theorem blG_c {g : Nat → Int32} {x y w : Nat} {s : Int32} (hw : 1 ≤ w ∧ x + w ≤ 4) : ∀ n b, blG g x y w s n b = if x ≤ b % 4 ∧ b % 4 < x + w ∧ y ≤ b / 4 ∧ (b / 4 - y) * w + (b % 4 - x) < n then s else g b := by
  intro n
  induction n with
  | zero => intro b; rw [if_neg (by omega)]; rfl
  | succ n ih =>
    intro b
    show (if b = pPl x y w n then s else blG g x y w s n b) = _
    rw [ih b]
    unfold pPl
    rcases (show w = 1 ∨ w = 2 ∨ w = 3 ∨ w = 4 by omega) with rfl | rfl | rfl | rfl
    · by_cases e : b = x + n % 1 + 4 * (y + n / 1)
      · rw [if_pos e, if_pos (by omega)]
      · rw [if_neg e]
        by_cases c : x ≤ b % 4 ∧ b % 4 < x + 1 ∧ y ≤ b / 4 ∧ (b / 4 - y) * 1 + (b % 4 - x) < n
        · rw [if_pos c, if_pos (by omega)]
        · rw [if_neg c, if_neg (by omega)]
    · by_cases e : b = x + n % 2 + 4 * (y + n / 2)
      · rw [if_pos e, if_pos (by omega)]
      · rw [if_neg e]
        by_cases c : x ≤ b % 4 ∧ b % 4 < x + 2 ∧ y ≤ b / 4 ∧ (b / 4 - y) * 2 + (b % 4 - x) < n
        · rw [if_pos c, if_pos (by omega)]
        · rw [if_neg c, if_neg (by omega)]
    · by_cases e : b = x + n % 3 + 4 * (y + n / 3)
      · rw [if_pos e, if_pos (by omega)]
      · rw [if_neg e]
        by_cases c : x ≤ b % 4 ∧ b % 4 < x + 3 ∧ y ≤ b / 4 ∧ (b / 4 - y) * 3 + (b % 4 - x) < n
        · rw [if_pos c, if_pos (by omega)]
        · rw [if_neg c, if_neg (by omega)]
    · by_cases e : b = x + n % 4 + 4 * (y + n / 4)
      · rw [if_pos e, if_pos (by omega)]
      · rw [if_neg e]
        by_cases c : x ≤ b % 4 ∧ b % 4 < x + 4 ∧ y ≤ b / 4 ∧ (b / 4 - y) * 4 + (b % 4 - x) < n
        · rw [if_pos c, if_pos (by omega)]
        · rw [if_neg c, if_neg (by omega)]
theorem trG_c {g : Nat → Int32} {w H : Nat} (hw : 1 ≤ w ∧ w ≤ 4) : ∀ n b, trG g w H n b = if b % 4 < w ∧ (b / 4) * w + b % 4 < n then g (b / 4 + 4 * (H - 1 - b % 4)) else g b := by
  intro n
  induction n with
  | zero => intro b; rw [if_neg (by omega)]; rfl
  | succ n ih =>
    intro b
    show (if b = dPl w n then g (n / w + 4 * (H - 1 - n % w)) else trG g w H n b) = _
    rw [ih b]
    unfold dPl
    rcases (show w = 1 ∨ w = 2 ∨ w = 3 ∨ w = 4 by omega) with rfl | rfl | rfl | rfl
    · by_cases e : b = n % 1 + 4 * (n / 1)
      · rw [if_pos e, if_pos (by omega)]
        congr 1
        omega
      · rw [if_neg e]
        by_cases c : b % 4 < 1 ∧ (b / 4) * 1 + b % 4 < n
        · rw [if_pos c, if_pos (by omega)]
        · rw [if_neg c, if_neg (by omega)]
    · by_cases e : b = n % 2 + 4 * (n / 2)
      · rw [if_pos e, if_pos (by omega)]
        congr 1
        omega
      · rw [if_neg e]
        by_cases c : b % 4 < 2 ∧ (b / 4) * 2 + b % 4 < n
        · rw [if_pos c, if_pos (by omega)]
        · rw [if_neg c, if_neg (by omega)]
    · by_cases e : b = n % 3 + 4 * (n / 3)
      · rw [if_pos e, if_pos (by omega)]
        congr 1
        omega
      · rw [if_neg e]
        by_cases c : b % 4 < 3 ∧ (b / 4) * 3 + b % 4 < n
        · rw [if_pos c, if_pos (by omega)]
        · rw [if_neg c, if_neg (by omega)]
    · by_cases e : b = n % 4 + 4 * (n / 4)
      · rw [if_pos e, if_pos (by omega)]
        congr 1
        omega
      · rw [if_neg e]
        by_cases c : b % 4 < 4 ∧ (b / 4) * 4 + b % 4 < n
        · rw [if_pos c, if_pos (by omega)]
        · rw [if_neg c, if_neg (by omega)]
theorem smG_br {u : HS} {x y w h : Nat} (hu : HSk u) (hok : fitH u x y w h) : ∀ n, n ≤ w * h → smG (brG u) x y w n = smG u.1 x y w n := by
  intro n
  induction n with
  | zero => intro _; rfl
  | succ n ih =>
    intro hn
    show smG (brG u) x y w n + brG u (pPl x y w n) = smG u.1 x y w n + u.1 (pPl x y w n)
    have hl := pPl_lt hok hu.1.2 hu.2.1.2 (show n < w * h by omega)
    rw [ih (by omega)]
    congr 1
    unfold brG pPl
    have := hok.2.2.1
    have := hok.2.2.2
    have := hu.1.2
    rw [if_pos (by omega)]
theorem smG_le {u : HS} {x y w h : Nat} (hu : HSk u) (hok : fitH u x y w h) : ∀ n, n ≤ w * h → ∃ s : Nat, s ≤ 99 * n ∧ smG u.1 x y w n = nI s := by
  intro n
  induction n with
  | zero => intro _; exact ⟨0, by omega, rfl⟩
  | succ n ih =>
    intro hn
    obtain ⟨s, h1, h2⟩ := ih (by omega)
    have hl := pPl_lt hok hu.1.2 hu.2.1.2 (show n < w * h by omega)
    have a1 := hok.2.2.1
    have a2 := hok.2.2.2
    have a3 := hu.1.2
    obtain ⟨k, h3, h4⟩ := irg_cs (hu.2.2 (pPl x y w n) hl.1 (by unfold pPl; omega) (by unfold pPl; omega))
    refine ⟨s + k, by omega, ?_⟩
    show smG u.1 x y w n + u.1 (pPl x y w n) = _
    rw [h2, h4, nI_add]
theorem bl_rng {u : HS} {x y w h : Nat} (hu : HSk u) (hok : fitH u x y w h) : irg (smG u.1 x y w (w * h) / nI (w * h)) 0 99 := by
  obtain ⟨s, h1, h2⟩ := smG_le hu hok (w * h) (Nat.le_refl _)
  have hm := wmul (a := w) (b := h) (by have := hok.2.2.1; have := hu.1.2; omega) (by have := hok.2.2.2; have := hu.2.1.2; omega)
  have hm1 : 1 ≤ w * h := Nat.mul_pos hok.1 hok.2.1
  rw [h2, pk_div (by omega) hm1 (by omega)]
  exact irg_mk (by have : s / (w * h) ≤ 99 * (w * h) / (w * h) := Nat.div_le_div_right h1; rwa [Nat.mul_div_cancel _ hm1] at this)
theorem nI_ne1 {k : Nat} (h : k < 2 ^ 30) : ¬ nI k = -1 := by
  intro q
  have := congrArg Int32.toInt q
  rw [nI_toInt (by omega), show (-1 : Int32).toInt = -1 by decide] at this
  omega
theorem nI_ltE {a b : Nat} (ha : a < 2 ^ 30) (hb : b < 2 ^ 30) : nI a < nI b ↔ a < b := by
  rw [Int32.lt_iff_toInt_lt, nI_toInt (by omega), nI_toInt (by omega)]
  omega
def shX (x : Int32) : Int32 := if 0 < (if x < 99 then x else 99) then (if x < 99 then x else 99) else 0
theorem shV_X {v b : Int32} (h : ¬ v = -1) : shV v b = shX (v + b) := if_neg h
theorem shX_l : ∀ n : Nat, n < 199 → shX (nI n) = lsr 99 (nI n) ∧ irg (lsr 99 (nI n)) 0 99 := by decide +kernel
theorem shX_m : ∀ n : Nat, n < 100 → shX (nI n) = gtr 0 (nI n) ∧ irg (gtr 0 (nI n)) 0 99 := by decide +kernel
theorem sh_l {v : Int32} {d : Nat} (h : irg v 0 99) (hd : d ≤ 99) : shV v (nI d) = tnt v 108 (nI d) ∧ irg (tnt v 108 (nI d)) 0 99 := by
  obtain ⟨k, hk, rfl⟩ := irg_cs h
  rw [shV_X (nI_ne1 (by omega)), show tnt (nI k) 108 (nI d) = lsr 99 (nI k + nI d) from if_pos rfl, nI_add]
  exact shX_l (k + d) (by omega)
theorem sh_m {v : Int32} {d : Nat} (h : irg v 0 99) (hd : d ≤ 99) : shV v (-(nI d)) = tnt v 109 (nI d) ∧ irg (tnt v 109 (nI d)) 0 99 := by
  obtain ⟨k, hk, rfl⟩ := irg_cs h
  rw [shV_X (nI_ne1 (by omega)), show tnt (nI k) 109 (nI d) = gtr 0 (nI k - nI d) from rfl, ← Int32.sub_eq_add_neg]
  by_cases h1 : d ≤ k
  · rw [pk_sub h1]
    exact shX_m (k - d) (by omega)
  · have hn := pk_sneg (a := k) (b := d) (by omega) (by omega)
    have hn2 : nI k - nI d < 99 := Int32.lt_trans hn (by decide)
    have e1 : shX (nI k - nI d) = 0 := by
      unfold shX
      rw [if_pos hn2, if_neg (Int32.not_lt.mpr (Int32.le_of_lt hn))]
    have e2 : gtr 0 (nI k - nI d) = 0 := if_pos hn
    rw [e1, e2]
    exact ⟨rfl, irg_mk (k := 0) (by omega)⟩
theorem sw_q {v : Int32} {d : Nat} (h : irg v 0 99) (hd : 1 ≤ d ∧ d ≤ 99) : swV v (nI d) = tnt v 113 (nI d) ∧ irg (tnt v 113 (nI d)) 0 99 := by
  obtain ⟨k, hk, rfl⟩ := irg_cs h
  unfold swV tnt
  rw [if_neg (nI_ne1 (by omega)), if_neg (by decide), if_neg (by decide)]
  refine ⟨rfl, ?_⟩
  rw [pk_div (by omega) (by omega) (by omega), pk_mul]
  exact irg_mk (by have := Nat.div_mul_le_self k d; omega)
theorem brG_in {u : HS} {k : Nat} (h : k % 4 < u.2.1 ∧ k / 4 < u.2.2) : brG u k = u.1 k := if_pos h
theorem brG_out {u : HS} {k : Nat} (h : ¬ (k % 4 < u.2.1 ∧ k / 4 < u.2.2)) : brG u k = -1 := if_neg h
theorem ct_br {u : HS} {x y w h k : Nat} (hu : HSk u) (hok : fitH u x y w h) (hk : k < 16) : cuG (brG u) x y w h k = brG (ctG u.1 x y w (w * h), w, h) k := by
  obtain ⟨a1, a2, a3, a4⟩ := hok
  have b1 := hu.1.2
  have b2 := hu.2.1.2
  unfold cuG
  by_cases c : k % 4 < w ∧ k / 4 < h
  · rw [if_pos c, brG_in (u := (ctG u.1 x y w (w * h), w, h)) c, brG_in (by omega)]
    show _ = ctG u.1 x y w (w * h) k
    have e1 : (k / 4 + 1) * w ≤ h * w := Nat.mul_le_mul_right w c.2
    rw [Nat.succ_mul, Nat.mul_comm h w] at e1
    rw [ctG_c ⟨a1, by omega⟩, if_pos ⟨c.1, by omega⟩]
  · rw [if_neg c, brG_out (u := (ctG u.1 x y w (w * h), w, h)) c]
theorem bl_br {u : HS} {x y w h k : Nat} (hu : HSk u) (hok : fitH u x y w h) (s : Int32) (hk : k < 16) : blF (brG u) x y w h s k = brG (blG u.1 x y w s (w * h), u.2.1, u.2.2) k := by
  obtain ⟨a1, a2, a3, a4⟩ := hok
  have b1 := hu.1.2
  have b2 := hu.2.1.2
  unfold blF
  by_cases c : x ≤ k % 4 ∧ k % 4 < x + w ∧ y ≤ k / 4 ∧ k / 4 < y + h
  · rw [if_pos c, brG_in (u := (blG u.1 x y w s (w * h), u.2.1, u.2.2)) (show k % 4 < u.2.1 ∧ k / 4 < u.2.2 by omega)]
    show _ = blG u.1 x y w s (w * h) k
    have e1 : (k / 4 - y + 1) * w ≤ h * w := Nat.mul_le_mul_right w (by omega)
    rw [Nat.succ_mul, Nat.mul_comm h w] at e1
    rw [blG_c ⟨a1, by omega⟩, if_pos ⟨c.1, c.2.1, c.2.2.1, by omega⟩]
  · rw [if_neg c]
    by_cases d : k % 4 < u.2.1 ∧ k / 4 < u.2.2
    · rw [brG_in d, brG_in (u := (blG u.1 x y w s (w * h), u.2.1, u.2.2)) d]
      show _ = blG u.1 x y w s (w * h) k
      rw [blG_c ⟨a1, by omega⟩, if_neg (fun q => c ⟨q.1, q.2.1, q.2.2.1, by
        have e2 := q.2.2.2
        by_cases z : k / 4 < y + h
        · exact z
        · have e3 : h * w ≤ (k / 4 - y) * w := Nat.mul_le_mul_right w (by omega)
          rw [Nat.mul_comm h w] at e3
          omega⟩)]
    · rw [brG_out d, brG_out (u := (blG u.1 x y w s (w * h), u.2.1, u.2.2)) d]
theorem tr_br {u : HS} {k : Nat} (hu : HSk u) (hk : k < 16) : trF (brG u) u.2.1 u.2.2 k = brG (trG u.1 u.2.2 u.2.2 (u.2.2 * u.2.1), u.2.2, u.2.1) k := by
  have b1 := hu.1
  have b2 := hu.2.1
  unfold trF
  by_cases c : k % 4 < u.2.2 ∧ k / 4 < u.2.1
  · rw [if_pos c, brG_in (u := (trG u.1 u.2.2 u.2.2 (u.2.2 * u.2.1), u.2.2, u.2.1)) c, brG_in (by omega)]
    show _ = trG u.1 u.2.2 u.2.2 (u.2.2 * u.2.1) k
    have e1 : (k / 4 + 1) * u.2.2 ≤ u.2.1 * u.2.2 := Nat.mul_le_mul_right _ c.2
    rw [Nat.succ_mul, Nat.mul_comm u.2.1 u.2.2] at e1
    rw [trG_c b2, if_pos ⟨c.1, by omega⟩]
  · rw [if_neg c, brG_out (u := (trG u.1 u.2.2 u.2.2 (u.2.2 * u.2.1), u.2.2, u.2.1)) c]

theorem stL_ok {q : Int32 × Nat} {u u' : HS} (hu : HSk u) (hq : okA q) (h : stL q u = some u') : HSk u' := by
  unfold stL at h
  by_cases h1 : q.1 = 99 ∨ q.1 = 98
  · rw [if_pos h1] at h
    by_cases h2 : fitH u (q.2 / 1000) (q.2 / 100 % 10) (q.2 / 10 % 10) (q.2 % 10)
    · rw [if_pos h2] at h
      have h := Option.some.inj h
      generalize q.2 / 1000 = x at *
      generalize q.2 / 100 % 10 = y at *
      generalize q.2 / 10 % 10 = w at *
      generalize q.2 % 10 = hh at *
      have a := h2
      obtain ⟨a1, a2, a3, a4⟩ := a
      have b1 := hu.1
      have b2 := hu.2.1
      by_cases h3 : q.1 = 98
      · rw [if_pos h3] at h
        subst h
        refine ⟨b1, b2, fun k hk c1 c2 => ?_⟩
        show irg (blG u.1 x y w _ (w * hh) k) 0 99
        rw [blG_c ⟨a1, by omega⟩]
        by_cases c : x ≤ k % 4 ∧ k % 4 < x + w ∧ y ≤ k / 4 ∧ (k / 4 - y) * w + (k % 4 - x) < w * hh
        · rw [if_pos c]; exact bl_rng hu h2
        · rw [if_neg c]; exact hu.2.2 k hk c1 c2
      · rw [if_neg h3] at h
        subst h
        refine ⟨⟨a1, by show w ≤ 4; omega⟩, ⟨a2, by show hh ≤ 4; omega⟩, fun k hk c1 c2 => ?_⟩
        have c1 : k % 4 < w := c1
        have c2 : k / 4 < hh := c2
        show irg (ctG u.1 x y w (w * hh) k) 0 99
        have e1 : (k / 4 + 1) * w ≤ hh * w := Nat.mul_le_mul_right w c2
        rw [Nat.succ_mul, Nat.mul_comm hh w] at e1
        rw [ctG_c ⟨a1, by omega⟩, if_pos ⟨c1, by omega⟩]
        exact hu.2.2 _ (by omega) (by omega) (by omega)
    · rw [if_neg h2] at h; cases h
  · rw [if_neg h1] at h
    by_cases h2 : q.1 = 116
    · rw [if_pos h2] at h
      have h := Option.some.inj h
      subst h
      have b1 := hu.1
      have b2 := hu.2.1
      refine ⟨b2, b1, fun k hk c1 c2 => ?_⟩
      have c1 : k % 4 < u.2.2 := c1
      have c2 : k / 4 < u.2.1 := c2
      show irg (trG u.1 u.2.2 u.2.2 (u.2.2 * u.2.1) k) 0 99
      have e1 : (k / 4 + 1) * u.2.2 ≤ u.2.1 * u.2.2 := Nat.mul_le_mul_right _ c2
      rw [Nat.succ_mul, Nat.mul_comm u.2.1 u.2.2] at e1
      rw [trG_c b2, if_pos ⟨c1, by omega⟩]
      exact hu.2.2 _ (by omega) (by omega) (by omega)
    · rw [if_neg h2] at h
      have h := Option.some.inj h
      subst h
      refine ⟨hu.1, hu.2.1, fun k hk c1 c2 => ?_⟩
      have hv := hu.2.2 k hk c1 c2
      rcases hq with hq | hq | ⟨hq, hd⟩
      · exact absurd hq.1 h1
      · exact absurd hq.1 h2
      · show irg (tnt (u.1 k) q.1 (nI q.2)) 0 99
        rcases hq with e | e | e
        · rw [e]; exact (sh_l hv hd.2).2
        · rw [e]; exact (sh_m hv hd.2).2
        · rw [e]; exact (sw_q hv hd).2
theorem mp_br {u : HS} {F F2 : Int32 → Int32} (hF : F (-1) = -1) (he : ∀ k, k < 16 → k % 4 < u.2.1 → k / 4 < u.2.2 → F (u.1 k) = F2 (u.1 k)) {k : Nat} (hk : k < 16) : F (brG u k) = brG (fun b => F2 (u.1 b), u.2.1, u.2.2) k := by
  by_cases c : k % 4 < u.2.1 ∧ k / 4 < u.2.2
  · rw [brG_in c, brG_in (u := (fun b => F2 (u.1 b), u.2.1, u.2.2)) c, he k hk c.1 c.2]
  · rw [brG_out c, brG_out (u := (fun b => F2 (u.1 b), u.2.1, u.2.2)) c, hF]

def rmX10_performOne : Room := { frames := 2, cells := 0, slots := 0, locals := 63 }
set_option maxHeartbeats 4000000 in
set_option maxRecDepth 100000 in
theorem n99_X10_performOne {M0 : Mem} {n : Int32} {p : Value} {u : HS} {v : Nat} (hK : WKS M0 n p (nI u.2.1) (nI u.2.2) (brG u)) (hu : HSk u) (hv : v ≤ 9999) (hno : ¬ fitH u (v / 1000) (v / 100 % 10) (v / 10 % 10) (v % 10)) : AP mX10_performOne rmX10_performOne [.ref 12, .int 99, .int (nI v)] M0 (some (.int 0)) (fun M => M = M0) := by
  refine am_of rfl rfl (ls := [some (.ref 12), some (.int 99), some (.int (nI v)), none, none, none, none]) rfl ?_
  suffices HH : ∀ M, (WKS M n p (nI u.2.1) (nI u.2.2) (brG u)) → (M = M0) → AW mX10_performOne rmX10_performOne (fun r' M' => r' = (some (.int 0)) ∧ (fun M => M = M0) M') 0 [some (.ref 12), some (.int 99), some (.int (nI v)), none, none, none, none] [] M 0 0 from HH M0 hK rfl
  intro M hK hM
  have b1 := hu.1
  have b2 := hu.2.1
  refine aw_iload2 0 dX10_performOne_0 ?_
  refine aw_sipush 1 1000 dX10_performOne_1 (by decide) ?_
  refine aw_idivN 4 (v) (1000) dX10_performOne_4 rfl rfl (by omega) (by omega) (by omega) ?_
  refine aw_istore3 5 dX10_performOne_5 rfl ?_
  refine aw_iload2 6 dX10_performOne_6 ?_
  refine aw_bipush 7 100 dX10_performOne_7 (by decide) ?_
  refine aw_idivN 9 (v) (100) dX10_performOne_9 rfl rfl (by omega) (by omega) (by omega) ?_
  refine aw_bipush 10 10 dX10_performOne_10 (by decide) ?_
  refine aw_iremN 12 (v / 100) (10) dX10_performOne_12 rfl rfl (by omega) (by omega) (by omega) ?_
  refine aw_istore4 13 dX10_performOne_13 rfl ?_
  refine aw_iload2 15 dX10_performOne_15 ?_
  refine aw_bipush 16 10 dX10_performOne_16 (by decide) ?_
  refine aw_idivN 18 (v) (10) dX10_performOne_18 rfl rfl (by omega) (by omega) (by omega) ?_
  refine aw_bipush 19 10 dX10_performOne_19 (by decide) ?_
  refine aw_iremN 21 (v / 10) (10) dX10_performOne_21 rfl rfl (by omega) (by omega) (by omega) ?_
  refine aw_istore5 22 dX10_performOne_22 rfl ?_
  refine aw_iload2 24 dX10_performOne_24 ?_
  refine aw_bipush 25 10 dX10_performOne_25 (by decide) ?_
  refine aw_iremN 27 (v) (10) dX10_performOne_27 rfl rfl (by omega) (by omega) (by omega) ?_
  refine aw_istore6 28 dX10_performOne_28 rfl ?_
  refine aw_iload1 30 dX10_performOne_30 ?_
  refine aw_bipush 31 99 dX10_performOne_31 (by decide) ?_
  refine aw_icmp_eqN 33 42 (99) (99) dX10_performOne_33 (by decide) rfl rfl (by decide) (by decide) (fun _ => ?_) (fun h => absurd h (by decide))
  refine aw_aload0 42 dX10_performOne_42 ?_
  refine aw_iload3 43 dX10_performOne_43 ?_
  refine aw_iload4 44 dX10_performOne_44 ?_
  refine aw_iload5 46 dX10_performOne_46 ?_
  refine aw_iload6 48 dX10_performOne_48 ?_
  refine cr_v1 50 dX10_performOne_50 (c_X10_holds hK (by omega) (by omega)) ckV_RX10_32 cd_X10_holds hK.1 vc10 rfl rfl (Nat.le_of_ble_eq_true rfl) ⟨⟨by decide, by decide⟩, by decide, by decide⟩ rfl ?_
  refine aw_ifne_b 53 58 dX10_performOne_53 (by decide) (fun h53 => ?_) (fun h53 => ?_)
  · exact absurd h53 hno
  · refine aw_ic0 56 dX10_performOne_56 ?_
    refine aw_zret 57 dX10_performOne_57 rfl (by first | rfl | exact bi_nar | decide) (Nat.zero_le _) (Nat.zero_le _) ?_
    exact ⟨rfl, hM⟩

set_option maxHeartbeats 4000000 in
set_option maxRecDepth 100000 in
theorem n98_X10_performOne {M0 : Mem} {n : Int32} {p : Value} {u : HS} {v : Nat} (hK : WKS M0 n p (nI u.2.1) (nI u.2.2) (brG u)) (hu : HSk u) (hv : v ≤ 9999) (hno : ¬ fitH u (v / 1000) (v / 100 % 10) (v / 10 % 10) (v % 10)) : AP mX10_performOne rmX10_performOne [.ref 12, .int 98, .int (nI v)] M0 (some (.int 0)) (fun M => M = M0) := by
  refine am_of rfl rfl (ls := [some (.ref 12), some (.int 98), some (.int (nI v)), none, none, none, none]) rfl ?_
  suffices HH : ∀ M, (WKS M n p (nI u.2.1) (nI u.2.2) (brG u)) → (M = M0) → AW mX10_performOne rmX10_performOne (fun r' M' => r' = (some (.int 0)) ∧ (fun M => M = M0) M') 0 [some (.ref 12), some (.int 98), some (.int (nI v)), none, none, none, none] [] M 0 0 from HH M0 hK rfl
  intro M hK hM
  have b1 := hu.1
  have b2 := hu.2.1
  refine aw_iload2 0 dX10_performOne_0 ?_
  refine aw_sipush 1 1000 dX10_performOne_1 (by decide) ?_
  refine aw_idivN 4 (v) (1000) dX10_performOne_4 rfl rfl (by omega) (by omega) (by omega) ?_
  refine aw_istore3 5 dX10_performOne_5 rfl ?_
  refine aw_iload2 6 dX10_performOne_6 ?_
  refine aw_bipush 7 100 dX10_performOne_7 (by decide) ?_
  refine aw_idivN 9 (v) (100) dX10_performOne_9 rfl rfl (by omega) (by omega) (by omega) ?_
  refine aw_bipush 10 10 dX10_performOne_10 (by decide) ?_
  refine aw_iremN 12 (v / 100) (10) dX10_performOne_12 rfl rfl (by omega) (by omega) (by omega) ?_
  refine aw_istore4 13 dX10_performOne_13 rfl ?_
  refine aw_iload2 15 dX10_performOne_15 ?_
  refine aw_bipush 16 10 dX10_performOne_16 (by decide) ?_
  refine aw_idivN 18 (v) (10) dX10_performOne_18 rfl rfl (by omega) (by omega) (by omega) ?_
  refine aw_bipush 19 10 dX10_performOne_19 (by decide) ?_
  refine aw_iremN 21 (v / 10) (10) dX10_performOne_21 rfl rfl (by omega) (by omega) (by omega) ?_
  refine aw_istore5 22 dX10_performOne_22 rfl ?_
  refine aw_iload2 24 dX10_performOne_24 ?_
  refine aw_bipush 25 10 dX10_performOne_25 (by decide) ?_
  refine aw_iremN 27 (v) (10) dX10_performOne_27 rfl rfl (by omega) (by omega) (by omega) ?_
  refine aw_istore6 28 dX10_performOne_28 rfl ?_
  refine aw_iload1 30 dX10_performOne_30 ?_
  refine aw_bipush 31 99 dX10_performOne_31 (by decide) ?_
  refine aw_icmp_eqN 33 42 (98) (99) dX10_performOne_33 (by decide) rfl rfl (by decide) (by decide) (fun h => absurd h (by decide)) (fun _ => ?_)
  refine aw_iload1 36 dX10_performOne_36 ?_
  refine aw_bipush 37 98 dX10_performOne_37 (by decide) ?_
  refine aw_icmp_neN 39 58 (98) (98) dX10_performOne_39 (by decide) rfl rfl (by decide) (by decide) (fun h => absurd h (by decide)) (fun _ => ?_)
  refine aw_aload0 42 dX10_performOne_42 ?_
  refine aw_iload3 43 dX10_performOne_43 ?_
  refine aw_iload4 44 dX10_performOne_44 ?_
  refine aw_iload5 46 dX10_performOne_46 ?_
  refine aw_iload6 48 dX10_performOne_48 ?_
  refine cr_v1 50 dX10_performOne_50 (c_X10_holds hK (by omega) (by omega)) ckV_RX10_32 cd_X10_holds hK.1 vc10 rfl rfl (Nat.le_of_ble_eq_true rfl) ⟨⟨by decide, by decide⟩, by decide, by decide⟩ rfl ?_
  refine aw_ifne_b 53 58 dX10_performOne_53 (by decide) (fun h53 => ?_) (fun h53 => ?_)
  · exact absurd h53 hno
  · refine aw_ic0 56 dX10_performOne_56 ?_
    refine aw_zret 57 dX10_performOne_57 rfl (by first | rfl | exact bi_nar | decide) (Nat.zero_le _) (Nat.zero_le _) ?_
    exact ⟨rfl, hM⟩

set_option maxHeartbeats 4000000 in
set_option maxRecDepth 100000 in
theorem c99_X10_performOne {M0 : Mem} {n : Int32} {p : Value} {u : HS} {v : Nat} (hK : WKS M0 n p (nI u.2.1) (nI u.2.2) (brG u)) (hu : HSk u) (hv : v ≤ 9999) (hok : fitH u (v / 1000) (v / 100 % 10) (v / 10 % 10) (v % 10)) : AP mX10_performOne rmX10_performOne [.ref 12, .int 99, .int (nI v)] M0 (some (.int 1)) (fun M => FrS SW M0 M ∧ WKS M n p (nI (v / 10 % 10)) (nI (v % 10)) (cuG (brG u) (v / 1000) (v / 100 % 10) (v / 10 % 10) (v % 10))) := by
  refine am_of rfl rfl (ls := [some (.ref 12), some (.int 99), some (.int (nI v)), none, none, none, none]) rfl ?_
  suffices HH : ∀ M, (WKS M n p (nI u.2.1) (nI u.2.2) (brG u)) → (M = M0) → AW mX10_performOne rmX10_performOne (fun r' M' => r' = (some (.int 1)) ∧ (fun M => FrS SW M0 M ∧ WKS M n p (nI (v / 10 % 10)) (nI (v % 10)) (cuG (brG u) (v / 1000) (v / 100 % 10) (v / 10 % 10) (v % 10))) M') 0 [some (.ref 12), some (.int 99), some (.int (nI v)), none, none, none, none] [] M 0 0 from HH M0 hK rfl
  intro M hK hM
  have b1 := hu.1
  have b2 := hu.2.1
  subst hM
  refine aw_iload2 0 dX10_performOne_0 ?_
  refine aw_sipush 1 1000 dX10_performOne_1 (by decide) ?_
  refine aw_idivN 4 (v) (1000) dX10_performOne_4 rfl rfl (by omega) (by omega) (by omega) ?_
  refine aw_istore3 5 dX10_performOne_5 rfl ?_
  refine aw_iload2 6 dX10_performOne_6 ?_
  refine aw_bipush 7 100 dX10_performOne_7 (by decide) ?_
  refine aw_idivN 9 (v) (100) dX10_performOne_9 rfl rfl (by omega) (by omega) (by omega) ?_
  refine aw_bipush 10 10 dX10_performOne_10 (by decide) ?_
  refine aw_iremN 12 (v / 100) (10) dX10_performOne_12 rfl rfl (by omega) (by omega) (by omega) ?_
  refine aw_istore4 13 dX10_performOne_13 rfl ?_
  refine aw_iload2 15 dX10_performOne_15 ?_
  refine aw_bipush 16 10 dX10_performOne_16 (by decide) ?_
  refine aw_idivN 18 (v) (10) dX10_performOne_18 rfl rfl (by omega) (by omega) (by omega) ?_
  refine aw_bipush 19 10 dX10_performOne_19 (by decide) ?_
  refine aw_iremN 21 (v / 10) (10) dX10_performOne_21 rfl rfl (by omega) (by omega) (by omega) ?_
  refine aw_istore5 22 dX10_performOne_22 rfl ?_
  refine aw_iload2 24 dX10_performOne_24 ?_
  refine aw_bipush 25 10 dX10_performOne_25 (by decide) ?_
  refine aw_iremN 27 (v) (10) dX10_performOne_27 rfl rfl (by omega) (by omega) (by omega) ?_
  refine aw_istore6 28 dX10_performOne_28 rfl ?_
  refine aw_iload1 30 dX10_performOne_30 ?_
  refine aw_bipush 31 99 dX10_performOne_31 (by decide) ?_
  refine aw_icmp_eqN 33 42 (99) (99) dX10_performOne_33 (by decide) rfl rfl (by decide) (by decide) (fun _ => ?_) (fun h => absurd h (by decide))
  refine aw_aload0 42 dX10_performOne_42 ?_
  refine aw_iload3 43 dX10_performOne_43 ?_
  refine aw_iload4 44 dX10_performOne_44 ?_
  refine aw_iload5 46 dX10_performOne_46 ?_
  refine aw_iload6 48 dX10_performOne_48 ?_
  refine cr_v1 50 dX10_performOne_50 (c_X10_holds hK (by omega) (by omega)) ckV_RX10_32 cd_X10_holds hK.1 vc10 rfl rfl (Nat.le_of_ble_eq_true rfl) ⟨⟨by decide, by decide⟩, by decide, by decide⟩ rfl ?_
  refine aw_ifne_b 53 58 dX10_performOne_53 (by decide) (fun h53 => ?_) (fun h53 => ?_)
  · refine aw_iload1 58 dX10_performOne_58 ?_
    refine aw_lookup (off := 49) 59 108 dX10_performOne_59 (by decide) (by decide) (by decide) ?_
    refine aw_aload0 108 dX10_performOne_108 ?_
    refine aw_iload3 109 dX10_performOne_109 ?_
    refine aw_iload4 110 dX10_performOne_110 ?_
    refine aw_iload5 112 dX10_performOne_112 ?_
    refine aw_iload6 114 dX10_performOne_114 ?_
    refine ap_v0 116 dX10_performOne_116 (c_X10_cutToSpare hK hok (by omega)) ckV_RX10_36 cd_X10_cutToSpare hK.1 vc10 rfl rfl (Nat.le_of_ble_eq_true rfl) ⟨⟨by decide, by decide⟩, by decide, by decide⟩ rfl (fun M hq => ?_)
    have hS := hq.1
    replace hK := hq.2.1
    have hA := hq.2.2
    clear hq
    refine aw_aload0 119 dX10_performOne_119 ?_
    refine aw_get 120 dX10_performOne_120 ckF_RX10_14_10 hK.1 hK.2.1 ?_
    refine aw_iload5 123 dX10_performOne_123 ?_
    refine aw_iload6 125 dX10_performOne_125 ?_
    refine aw_aload0 127 dX10_performOne_127 ?_
    refine aw_get 128 dX10_performOne_128 ckF_RX10_20_10 hK.1 hK.2.2.1 ?_
    refine ap_v0 131 dX10_performOne_131 (c_X3_replace (f := cuG (brG u) (v / 1000) (v / 100 % 10) (v / 10 % 10) (v % 10)) hK.pv hA (by decide) (by decide) (by decide)) ckV_RX10_40 cd_X3_replace hK.pv.1 vc3 rfl rfl (Nat.le_of_ble_eq_true rfl) ⟨⟨by decide, by decide⟩, by decide, by decide⟩ rfl (fun M hr => ?_)
    refine aw_goto 134 205 dX10_performOne_134 (by decide) ?_
    refine aw_ic1 205 dX10_performOne_205 ?_
    refine aw_zret 206 dX10_performOne_206 rfl (by first | rfl | exact bi_nar | decide) (Nat.zero_le _) (Nat.zero_le _) ?_
    exact ⟨rfl, hS.trans hr.1.b13, hK.bench hr.1 hr.2⟩
  · exact absurd hok h53

set_option maxHeartbeats 4000000 in
set_option maxRecDepth 100000 in
theorem c98_X10_performOne {M0 : Mem} {n : Int32} {p : Value} {u : HS} {v : Nat} (hK : WKS M0 n p (nI u.2.1) (nI u.2.2) (brG u)) (hu : HSk u) (hv : v ≤ 9999) (hok : fitH u (v / 1000) (v / 100 % 10) (v / 10 % 10) (v % 10)) : AP mX10_performOne rmX10_performOne [.ref 12, .int 98, .int (nI v)] M0 (some (.int 1)) (fun M => FrS SW M0 M ∧ WKS M n p (nI u.2.1) (nI u.2.2) (blF (brG u) (v / 1000) (v / 100 % 10) (v / 10 % 10) (v % 10) (smG (brG u) (v / 1000) (v / 100 % 10) (v / 10 % 10) (v / 10 % 10 * (v % 10)) / nI (v / 10 % 10 * (v % 10))))) := by
  refine am_of rfl rfl (ls := [some (.ref 12), some (.int 98), some (.int (nI v)), none, none, none, none]) rfl ?_
  suffices HH : ∀ M, (WKS M n p (nI u.2.1) (nI u.2.2) (brG u)) → (M = M0) → AW mX10_performOne rmX10_performOne (fun r' M' => r' = (some (.int 1)) ∧ (fun M => FrS SW M0 M ∧ WKS M n p (nI u.2.1) (nI u.2.2) (blF (brG u) (v / 1000) (v / 100 % 10) (v / 10 % 10) (v % 10) (smG (brG u) (v / 1000) (v / 100 % 10) (v / 10 % 10) (v / 10 % 10 * (v % 10)) / nI (v / 10 % 10 * (v % 10))))) M') 0 [some (.ref 12), some (.int 98), some (.int (nI v)), none, none, none, none] [] M 0 0 from HH M0 hK rfl
  intro M hK hM
  have b1 := hu.1
  have b2 := hu.2.1
  subst hM
  refine aw_iload2 0 dX10_performOne_0 ?_
  refine aw_sipush 1 1000 dX10_performOne_1 (by decide) ?_
  refine aw_idivN 4 (v) (1000) dX10_performOne_4 rfl rfl (by omega) (by omega) (by omega) ?_
  refine aw_istore3 5 dX10_performOne_5 rfl ?_
  refine aw_iload2 6 dX10_performOne_6 ?_
  refine aw_bipush 7 100 dX10_performOne_7 (by decide) ?_
  refine aw_idivN 9 (v) (100) dX10_performOne_9 rfl rfl (by omega) (by omega) (by omega) ?_
  refine aw_bipush 10 10 dX10_performOne_10 (by decide) ?_
  refine aw_iremN 12 (v / 100) (10) dX10_performOne_12 rfl rfl (by omega) (by omega) (by omega) ?_
  refine aw_istore4 13 dX10_performOne_13 rfl ?_
  refine aw_iload2 15 dX10_performOne_15 ?_
  refine aw_bipush 16 10 dX10_performOne_16 (by decide) ?_
  refine aw_idivN 18 (v) (10) dX10_performOne_18 rfl rfl (by omega) (by omega) (by omega) ?_
  refine aw_bipush 19 10 dX10_performOne_19 (by decide) ?_
  refine aw_iremN 21 (v / 10) (10) dX10_performOne_21 rfl rfl (by omega) (by omega) (by omega) ?_
  refine aw_istore5 22 dX10_performOne_22 rfl ?_
  refine aw_iload2 24 dX10_performOne_24 ?_
  refine aw_bipush 25 10 dX10_performOne_25 (by decide) ?_
  refine aw_iremN 27 (v) (10) dX10_performOne_27 rfl rfl (by omega) (by omega) (by omega) ?_
  refine aw_istore6 28 dX10_performOne_28 rfl ?_
  refine aw_iload1 30 dX10_performOne_30 ?_
  refine aw_bipush 31 99 dX10_performOne_31 (by decide) ?_
  refine aw_icmp_eqN 33 42 (98) (99) dX10_performOne_33 (by decide) rfl rfl (by decide) (by decide) (fun h => absurd h (by decide)) (fun _ => ?_)
  refine aw_iload1 36 dX10_performOne_36 ?_
  refine aw_bipush 37 98 dX10_performOne_37 (by decide) ?_
  refine aw_icmp_neN 39 58 (98) (98) dX10_performOne_39 (by decide) rfl rfl (by decide) (by decide) (fun h => absurd h (by decide)) (fun _ => ?_)
  refine aw_aload0 42 dX10_performOne_42 ?_
  refine aw_iload3 43 dX10_performOne_43 ?_
  refine aw_iload4 44 dX10_performOne_44 ?_
  refine aw_iload5 46 dX10_performOne_46 ?_
  refine aw_iload6 48 dX10_performOne_48 ?_
  refine cr_v1 50 dX10_performOne_50 (c_X10_holds hK (by omega) (by omega)) ckV_RX10_32 cd_X10_holds hK.1 vc10 rfl rfl (Nat.le_of_ble_eq_true rfl) ⟨⟨by decide, by decide⟩, by decide, by decide⟩ rfl ?_
  refine aw_ifne_b 53 58 dX10_performOne_53 (by decide) (fun h53 => ?_) (fun h53 => ?_)
  · refine aw_iload1 58 dX10_performOne_58 ?_
    refine aw_lookup (off := 110) 59 169 dX10_performOne_59 (by decide) (by decide) (by decide) ?_
    refine aw_aload0 169 dX10_performOne_169 ?_
    refine aw_iload3 170 dX10_performOne_170 ?_
    refine aw_iload4 171 dX10_performOne_171 ?_
    refine aw_iload5 173 dX10_performOne_173 ?_
    refine aw_iload6 175 dX10_performOne_175 ?_
    refine ap_v0 177 dX10_performOne_177 (c_X10_blur hK hok (by omega)) ckV_RX10_54 cd_X10_blur hK.1 vc10 rfl rfl (Nat.le_of_ble_eq_true rfl) ⟨⟨by decide, by decide⟩, by decide, by decide⟩ rfl (fun M hq => ?_)
    refine aw_goto 180 205 dX10_performOne_180 (by decide) ?_
    refine aw_ic1 205 dX10_performOne_205 ?_
    refine aw_zret 206 dX10_performOne_206 rfl (by first | rfl | exact bi_nar | decide) (Nat.zero_le _) (Nat.zero_le _) ?_
    exact ⟨rfl, hq⟩
  · exact absurd hok h53

set_option maxHeartbeats 4000000 in
set_option maxRecDepth 100000 in
theorem c116_X10_performOne {M0 : Mem} {n : Int32} {p : Value} {u : HS} {v : Nat} (hK : WKS M0 n p (nI u.2.1) (nI u.2.2) (brG u)) (hu : HSk u) (hv : v ≤ 9999) : AP mX10_performOne rmX10_performOne [.ref 12, .int 116, .int (nI v)] M0 (some (.int 1)) (fun M => FrS SW M0 M ∧ WKS M n p (nI u.2.2) (nI u.2.1) (trF (brG u) u.2.1 u.2.2)) := by
  refine am_of rfl rfl (ls := [some (.ref 12), some (.int 116), some (.int (nI v)), none, none, none, none]) rfl ?_
  suffices HH : ∀ M, (WKS M n p (nI u.2.1) (nI u.2.2) (brG u)) → (M = M0) → AW mX10_performOne rmX10_performOne (fun r' M' => r' = (some (.int 1)) ∧ (fun M => FrS SW M0 M ∧ WKS M n p (nI u.2.2) (nI u.2.1) (trF (brG u) u.2.1 u.2.2)) M') 0 [some (.ref 12), some (.int 116), some (.int (nI v)), none, none, none, none] [] M 0 0 from HH M0 hK rfl
  intro M hK hM
  have b1 := hu.1
  have b2 := hu.2.1
  subst hM
  refine aw_iload2 0 dX10_performOne_0 ?_
  refine aw_sipush 1 1000 dX10_performOne_1 (by decide) ?_
  refine aw_idivN 4 (v) (1000) dX10_performOne_4 rfl rfl (by omega) (by omega) (by omega) ?_
  refine aw_istore3 5 dX10_performOne_5 rfl ?_
  refine aw_iload2 6 dX10_performOne_6 ?_
  refine aw_bipush 7 100 dX10_performOne_7 (by decide) ?_
  refine aw_idivN 9 (v) (100) dX10_performOne_9 rfl rfl (by omega) (by omega) (by omega) ?_
  refine aw_bipush 10 10 dX10_performOne_10 (by decide) ?_
  refine aw_iremN 12 (v / 100) (10) dX10_performOne_12 rfl rfl (by omega) (by omega) (by omega) ?_
  refine aw_istore4 13 dX10_performOne_13 rfl ?_
  refine aw_iload2 15 dX10_performOne_15 ?_
  refine aw_bipush 16 10 dX10_performOne_16 (by decide) ?_
  refine aw_idivN 18 (v) (10) dX10_performOne_18 rfl rfl (by omega) (by omega) (by omega) ?_
  refine aw_bipush 19 10 dX10_performOne_19 (by decide) ?_
  refine aw_iremN 21 (v / 10) (10) dX10_performOne_21 rfl rfl (by omega) (by omega) (by omega) ?_
  refine aw_istore5 22 dX10_performOne_22 rfl ?_
  refine aw_iload2 24 dX10_performOne_24 ?_
  refine aw_bipush 25 10 dX10_performOne_25 (by decide) ?_
  refine aw_iremN 27 (v) (10) dX10_performOne_27 rfl rfl (by omega) (by omega) (by omega) ?_
  refine aw_istore6 28 dX10_performOne_28 rfl ?_
  refine aw_iload1 30 dX10_performOne_30 ?_
  refine aw_bipush 31 99 dX10_performOne_31 (by decide) ?_
  refine aw_icmp_eqN 33 42 (116) (99) dX10_performOne_33 (by decide) rfl rfl (by decide) (by decide) (fun h => absurd h (by decide)) (fun _ => ?_)
  refine aw_iload1 36 dX10_performOne_36 ?_
  refine aw_bipush 37 98 dX10_performOne_37 (by decide) ?_
  refine aw_icmp_neN 39 58 (116) (98) dX10_performOne_39 (by decide) rfl rfl (by decide) (by decide) (fun _ => ?_) (fun h => absurd h (by decide))
  refine aw_iload1 58 dX10_performOne_58 ?_
  refine aw_lookup (off := 78) 59 137 dX10_performOne_59 (by decide) (by decide) (by decide) ?_
  refine aw_aload0 137 dX10_performOne_137 ?_
  refine ap_v0 138 dX10_performOne_138 (c_X10_turnToSpare hK (by omega)) ckV_RX10_44 cd_X10_turnToSpare hK.1 vc10 rfl rfl (Nat.le_of_ble_eq_true rfl) ⟨⟨by decide, by decide⟩, by decide, by decide⟩ rfl (fun M hq => ?_)
  have hS := hq.1
  replace hK := hq.2.1
  have hA := hq.2.2
  clear hq
  refine aw_aload0 141 dX10_performOne_141 ?_
  refine aw_get 142 dX10_performOne_142 ckF_RX10_14_10 hK.1 hK.2.1 ?_
  refine aw_aload0 145 dX10_performOne_145 ?_
  refine aw_get 146 dX10_performOne_146 ckF_RX10_14_10 hK.1 hK.2.1 ?_
  refine aw_get 149 dX10_performOne_149 ckF_RX10_47_3 hK.pv.1 hK.pv.2.2.2.2.1 ?_
  refine aw_aload0 152 dX10_performOne_152 ?_
  refine aw_get 153 dX10_performOne_153 ckF_RX10_14_10 hK.1 hK.2.1 ?_
  refine aw_get 156 dX10_performOne_156 ckF_RX10_51_3 hK.pv.1 hK.pv.2.2.2.1 ?_
  refine aw_aload0 159 dX10_performOne_159 ?_
  refine aw_get 160 dX10_performOne_160 ckF_RX10_20_10 hK.1 hK.2.2.1 ?_
  refine ap_v0 163 dX10_performOne_163 (c_X3_replace (f := trF (brG u) u.2.1 u.2.2) hK.pv hA (by decide) (by decide) (by decide)) ckV_RX10_40 cd_X3_replace hK.pv.1 vc3 rfl rfl (Nat.le_of_ble_eq_true rfl) ⟨⟨by decide, by decide⟩, by decide, by decide⟩ rfl (fun M hr => ?_)
  refine aw_goto 166 205 dX10_performOne_166 (by decide) ?_
  refine aw_ic1 205 dX10_performOne_205 ?_
  refine aw_zret 206 dX10_performOne_206 rfl (by first | rfl | exact bi_nar | decide) (Nat.zero_le _) (Nat.zero_le _) ?_
  exact ⟨rfl, hS.trans hr.1.b13, hK.bench hr.1 hr.2⟩

set_option maxHeartbeats 4000000 in
set_option maxRecDepth 100000 in
theorem c108_X10_performOne {M0 : Mem} {n : Int32} {p : Value} {u : HS} {v : Nat} (hK : WKS M0 n p (nI u.2.1) (nI u.2.2) (brG u)) (hu : HSk u) (hv : v ≤ 9999) : AP mX10_performOne rmX10_performOne [.ref 12, .int 108, .int (nI v)] M0 (some (.int 1)) (fun M => FrS SW M0 M ∧ WKS M n p (nI u.2.1) (nI u.2.2) (fun k => shV (brG u k) (nI v))) := by
  refine am_of rfl rfl (ls := [some (.ref 12), some (.int 108), some (.int (nI v)), none, none, none, none]) rfl ?_
  suffices HH : ∀ M, (WKS M n p (nI u.2.1) (nI u.2.2) (brG u)) → (M = M0) → AW mX10_performOne rmX10_performOne (fun r' M' => r' = (some (.int 1)) ∧ (fun M => FrS SW M0 M ∧ WKS M n p (nI u.2.1) (nI u.2.2) (fun k => shV (brG u k) (nI v))) M') 0 [some (.ref 12), some (.int 108), some (.int (nI v)), none, none, none, none] [] M 0 0 from HH M0 hK rfl
  intro M hK hM
  have b1 := hu.1
  have b2 := hu.2.1
  subst hM
  refine aw_iload2 0 dX10_performOne_0 ?_
  refine aw_sipush 1 1000 dX10_performOne_1 (by decide) ?_
  refine aw_idivN 4 (v) (1000) dX10_performOne_4 rfl rfl (by omega) (by omega) (by omega) ?_
  refine aw_istore3 5 dX10_performOne_5 rfl ?_
  refine aw_iload2 6 dX10_performOne_6 ?_
  refine aw_bipush 7 100 dX10_performOne_7 (by decide) ?_
  refine aw_idivN 9 (v) (100) dX10_performOne_9 rfl rfl (by omega) (by omega) (by omega) ?_
  refine aw_bipush 10 10 dX10_performOne_10 (by decide) ?_
  refine aw_iremN 12 (v / 100) (10) dX10_performOne_12 rfl rfl (by omega) (by omega) (by omega) ?_
  refine aw_istore4 13 dX10_performOne_13 rfl ?_
  refine aw_iload2 15 dX10_performOne_15 ?_
  refine aw_bipush 16 10 dX10_performOne_16 (by decide) ?_
  refine aw_idivN 18 (v) (10) dX10_performOne_18 rfl rfl (by omega) (by omega) (by omega) ?_
  refine aw_bipush 19 10 dX10_performOne_19 (by decide) ?_
  refine aw_iremN 21 (v / 10) (10) dX10_performOne_21 rfl rfl (by omega) (by omega) (by omega) ?_
  refine aw_istore5 22 dX10_performOne_22 rfl ?_
  refine aw_iload2 24 dX10_performOne_24 ?_
  refine aw_bipush 25 10 dX10_performOne_25 (by decide) ?_
  refine aw_iremN 27 (v) (10) dX10_performOne_27 rfl rfl (by omega) (by omega) (by omega) ?_
  refine aw_istore6 28 dX10_performOne_28 rfl ?_
  refine aw_iload1 30 dX10_performOne_30 ?_
  refine aw_bipush 31 99 dX10_performOne_31 (by decide) ?_
  refine aw_icmp_eqN 33 42 (108) (99) dX10_performOne_33 (by decide) rfl rfl (by decide) (by decide) (fun h => absurd h (by decide)) (fun _ => ?_)
  refine aw_iload1 36 dX10_performOne_36 ?_
  refine aw_bipush 37 98 dX10_performOne_37 (by decide) ?_
  refine aw_icmp_neN 39 58 (108) (98) dX10_performOne_39 (by decide) rfl rfl (by decide) (by decide) (fun _ => ?_) (fun h => absurd h (by decide))
  refine aw_iload1 58 dX10_performOne_58 ?_
  refine aw_lookup (off := 124) 59 183 dX10_performOne_59 (by decide) (by decide) (by decide) ?_
  refine aw_aload0 183 dX10_performOne_183 ?_
  refine aw_iload2 184 dX10_performOne_184 ?_
  refine ap_v0 185 dX10_performOne_185 (c_X10_shift hK) ckV_RX10_57 cd_X10_shift hK.1 vc10 rfl rfl (Nat.le_of_ble_eq_true rfl) ⟨⟨by decide, by decide⟩, by decide, by decide⟩ rfl (fun M hq => ?_)
  refine aw_goto 188 205 dX10_performOne_188 (by decide) ?_
  refine aw_ic1 205 dX10_performOne_205 ?_
  refine aw_zret 206 dX10_performOne_206 rfl (by first | rfl | exact bi_nar | decide) (Nat.zero_le _) (Nat.zero_le _) ?_
  exact ⟨rfl, hq⟩

set_option maxHeartbeats 4000000 in
set_option maxRecDepth 100000 in
theorem c109_X10_performOne {M0 : Mem} {n : Int32} {p : Value} {u : HS} {v : Nat} (hK : WKS M0 n p (nI u.2.1) (nI u.2.2) (brG u)) (hu : HSk u) (hv : v ≤ 9999) : AP mX10_performOne rmX10_performOne [.ref 12, .int 109, .int (nI v)] M0 (some (.int 1)) (fun M => FrS SW M0 M ∧ WKS M n p (nI u.2.1) (nI u.2.2) (fun k => shV (brG u k) (-(nI v)))) := by
  refine am_of rfl rfl (ls := [some (.ref 12), some (.int 109), some (.int (nI v)), none, none, none, none]) rfl ?_
  suffices HH : ∀ M, (WKS M n p (nI u.2.1) (nI u.2.2) (brG u)) → (M = M0) → AW mX10_performOne rmX10_performOne (fun r' M' => r' = (some (.int 1)) ∧ (fun M => FrS SW M0 M ∧ WKS M n p (nI u.2.1) (nI u.2.2) (fun k => shV (brG u k) (-(nI v)))) M') 0 [some (.ref 12), some (.int 109), some (.int (nI v)), none, none, none, none] [] M 0 0 from HH M0 hK rfl
  intro M hK hM
  have b1 := hu.1
  have b2 := hu.2.1
  subst hM
  refine aw_iload2 0 dX10_performOne_0 ?_
  refine aw_sipush 1 1000 dX10_performOne_1 (by decide) ?_
  refine aw_idivN 4 (v) (1000) dX10_performOne_4 rfl rfl (by omega) (by omega) (by omega) ?_
  refine aw_istore3 5 dX10_performOne_5 rfl ?_
  refine aw_iload2 6 dX10_performOne_6 ?_
  refine aw_bipush 7 100 dX10_performOne_7 (by decide) ?_
  refine aw_idivN 9 (v) (100) dX10_performOne_9 rfl rfl (by omega) (by omega) (by omega) ?_
  refine aw_bipush 10 10 dX10_performOne_10 (by decide) ?_
  refine aw_iremN 12 (v / 100) (10) dX10_performOne_12 rfl rfl (by omega) (by omega) (by omega) ?_
  refine aw_istore4 13 dX10_performOne_13 rfl ?_
  refine aw_iload2 15 dX10_performOne_15 ?_
  refine aw_bipush 16 10 dX10_performOne_16 (by decide) ?_
  refine aw_idivN 18 (v) (10) dX10_performOne_18 rfl rfl (by omega) (by omega) (by omega) ?_
  refine aw_bipush 19 10 dX10_performOne_19 (by decide) ?_
  refine aw_iremN 21 (v / 10) (10) dX10_performOne_21 rfl rfl (by omega) (by omega) (by omega) ?_
  refine aw_istore5 22 dX10_performOne_22 rfl ?_
  refine aw_iload2 24 dX10_performOne_24 ?_
  refine aw_bipush 25 10 dX10_performOne_25 (by decide) ?_
  refine aw_iremN 27 (v) (10) dX10_performOne_27 rfl rfl (by omega) (by omega) (by omega) ?_
  refine aw_istore6 28 dX10_performOne_28 rfl ?_
  refine aw_iload1 30 dX10_performOne_30 ?_
  refine aw_bipush 31 99 dX10_performOne_31 (by decide) ?_
  refine aw_icmp_eqN 33 42 (109) (99) dX10_performOne_33 (by decide) rfl rfl (by decide) (by decide) (fun h => absurd h (by decide)) (fun _ => ?_)
  refine aw_iload1 36 dX10_performOne_36 ?_
  refine aw_bipush 37 98 dX10_performOne_37 (by decide) ?_
  refine aw_icmp_neN 39 58 (109) (98) dX10_performOne_39 (by decide) rfl rfl (by decide) (by decide) (fun _ => ?_) (fun h => absurd h (by decide))
  refine aw_iload1 58 dX10_performOne_58 ?_
  refine aw_lookup (off := 132) 59 191 dX10_performOne_59 (by decide) (by decide) (by decide) ?_
  refine aw_aload0 191 dX10_performOne_191 ?_
  refine aw_iload2 192 dX10_performOne_192 ?_
  refine aw_ineg 193 dX10_performOne_193 ?_
  refine ap_v0 194 dX10_performOne_194 (c_X10_shift hK) ckV_RX10_57 cd_X10_shift hK.1 vc10 rfl rfl (Nat.le_of_ble_eq_true rfl) ⟨⟨by decide, by decide⟩, by decide, by decide⟩ rfl (fun M hq => ?_)
  refine aw_goto 197 205 dX10_performOne_197 (by decide) ?_
  refine aw_ic1 205 dX10_performOne_205 ?_
  refine aw_zret 206 dX10_performOne_206 rfl (by first | rfl | exact bi_nar | decide) (Nat.zero_le _) (Nat.zero_le _) ?_
  exact ⟨rfl, hq⟩

set_option maxHeartbeats 4000000 in
set_option maxRecDepth 100000 in
theorem c113_X10_performOne {M0 : Mem} {n : Int32} {p : Value} {u : HS} {v : Nat} (hK : WKS M0 n p (nI u.2.1) (nI u.2.2) (brG u)) (hu : HSk u) (hv : v ≤ 9999) (hd1 : 1 ≤ v ∧ v ≤ 99) : AP mX10_performOne rmX10_performOne [.ref 12, .int 113, .int (nI v)] M0 (some (.int 1)) (fun M => FrS SW M0 M ∧ WKS M n p (nI u.2.1) (nI u.2.2) (fun k => swV (brG u k) (nI v))) := by
  refine am_of rfl rfl (ls := [some (.ref 12), some (.int 113), some (.int (nI v)), none, none, none, none]) rfl ?_
  suffices HH : ∀ M, (WKS M n p (nI u.2.1) (nI u.2.2) (brG u)) → (M = M0) → AW mX10_performOne rmX10_performOne (fun r' M' => r' = (some (.int 1)) ∧ (fun M => FrS SW M0 M ∧ WKS M n p (nI u.2.1) (nI u.2.2) (fun k => swV (brG u k) (nI v))) M') 0 [some (.ref 12), some (.int 113), some (.int (nI v)), none, none, none, none] [] M 0 0 from HH M0 hK rfl
  intro M hK hM
  have b1 := hu.1
  have b2 := hu.2.1
  subst hM
  refine aw_iload2 0 dX10_performOne_0 ?_
  refine aw_sipush 1 1000 dX10_performOne_1 (by decide) ?_
  refine aw_idivN 4 (v) (1000) dX10_performOne_4 rfl rfl (by omega) (by omega) (by omega) ?_
  refine aw_istore3 5 dX10_performOne_5 rfl ?_
  refine aw_iload2 6 dX10_performOne_6 ?_
  refine aw_bipush 7 100 dX10_performOne_7 (by decide) ?_
  refine aw_idivN 9 (v) (100) dX10_performOne_9 rfl rfl (by omega) (by omega) (by omega) ?_
  refine aw_bipush 10 10 dX10_performOne_10 (by decide) ?_
  refine aw_iremN 12 (v / 100) (10) dX10_performOne_12 rfl rfl (by omega) (by omega) (by omega) ?_
  refine aw_istore4 13 dX10_performOne_13 rfl ?_
  refine aw_iload2 15 dX10_performOne_15 ?_
  refine aw_bipush 16 10 dX10_performOne_16 (by decide) ?_
  refine aw_idivN 18 (v) (10) dX10_performOne_18 rfl rfl (by omega) (by omega) (by omega) ?_
  refine aw_bipush 19 10 dX10_performOne_19 (by decide) ?_
  refine aw_iremN 21 (v / 10) (10) dX10_performOne_21 rfl rfl (by omega) (by omega) (by omega) ?_
  refine aw_istore5 22 dX10_performOne_22 rfl ?_
  refine aw_iload2 24 dX10_performOne_24 ?_
  refine aw_bipush 25 10 dX10_performOne_25 (by decide) ?_
  refine aw_iremN 27 (v) (10) dX10_performOne_27 rfl rfl (by omega) (by omega) (by omega) ?_
  refine aw_istore6 28 dX10_performOne_28 rfl ?_
  refine aw_iload1 30 dX10_performOne_30 ?_
  refine aw_bipush 31 99 dX10_performOne_31 (by decide) ?_
  refine aw_icmp_eqN 33 42 (113) (99) dX10_performOne_33 (by decide) rfl rfl (by decide) (by decide) (fun h => absurd h (by decide)) (fun _ => ?_)
  refine aw_iload1 36 dX10_performOne_36 ?_
  refine aw_bipush 37 98 dX10_performOne_37 (by decide) ?_
  refine aw_icmp_neN 39 58 (113) (98) dX10_performOne_39 (by decide) rfl rfl (by decide) (by decide) (fun _ => ?_) (fun h => absurd h (by decide))
  refine aw_iload1 58 dX10_performOne_58 ?_
  refine aw_lookup (off := 141) 59 200 dX10_performOne_59 (by decide) (by decide) (by decide) ?_
  refine aw_aload0 200 dX10_performOne_200 ?_
  refine aw_iload2 201 dX10_performOne_201 ?_
  refine ap_v0 202 dX10_performOne_202 (c_X10_saveWorse (d := v) hK rfl hd1) ckV_RX10_60 cd_X10_saveWorse hK.1 vc10 rfl rfl (Nat.le_of_ble_eq_true rfl) ⟨⟨by decide, by decide⟩, by decide, by decide⟩ rfl (fun M hq => ?_)
  refine aw_ic1 205 dX10_performOne_205 ?_
  refine aw_zret 206 dX10_performOne_206 rfl (by first | rfl | exact bi_nar | decide) (Nat.zero_le _) (Nat.zero_le _) ?_
  exact ⟨rfl, hq⟩

def pfP (M0 : Mem) (n : Int32) (p : Value) (r : Option HS) (M : Mem) : Prop := FrS SW M0 M ∧ (∃ w h g, WKS M n p w h g) ∧ ∀ u', r = some u' → WKS M n p (nI u'.2.1) (nI u'.2.2) (brG u')
theorem pf_none {Z : YY} {rm : Room} {as : List Value} {M0 : Mem} {n : Int32} {p : Value} {w h : Int32} {g : Nat → Int32} {r : Option HS} (hK : WKS M0 n p w h g) (hr : r = none) (hA : AP Z rm as M0 (some (.int 0)) (fun M => M = M0)) : AP Z rm as M0 (some (.int (bi (r.isSome = true)))) (pfP M0 n p r) := by
  subst hr
  rw [bi_f (by decide)]
  exact hA.mono (fun M q => by subst q; exact ⟨FrS.rf _ _, ⟨_, _, _, hK⟩, fun u' q => by cases q⟩)
theorem pf_some {Z : YY} {rm : Room} {as : List Value} {M0 : Mem} {n : Int32} {p : Value} {w h : Int32} {g : Nat → Int32} {r : Option HS} {u' : HS} (hA : AP Z rm as M0 (some (.int 1)) (fun M => FrS SW M0 M ∧ WKS M n p w h g)) (hr : r = some u') (hw : w = nI u'.2.1) (hh : h = nI u'.2.2) (hg : ∀ k, k < 16 → g k = brG u' k) : AP Z rm as M0 (some (.int (bi (r.isSome = true)))) (pfP M0 n p r) := by
  subst hr hw hh
  rw [bi_t (show (some u').isSome = true from rfl)]
  exact hA.mono (fun M q => ⟨q.1, ⟨_, _, _, q.2⟩, fun u2 e => by cases e; exact q.2.to hg⟩)
theorem c_X10_performOne {M0 : Mem} {n : Int32} {p : Value} {u : HS} {q : Int32 × Nat} (hK : WKS M0 n p (nI u.2.1) (nI u.2.2) (brG u)) (hu : HSk u) (hq : okA q) : AP mX10_performOne rmX10_performOne [.ref 12, .int q.1, .int (nI q.2)] M0 (some (.int (bi ((stL q u).isSome = true)))) (pfP M0 n p (stL q u)) := by
  obtain ⟨c, v⟩ := q
  rcases hq with ⟨hc, hv⟩ | ⟨hc, hv⟩ | ⟨hc, hv⟩
  · have hc2 : c = 99 ∨ c = 98 := hc
    have hv : v ≤ 9999 := hv
    by_cases hok : fitH u (v / 1000) (v / 100 % 10) (v / 10 % 10) (v % 10)
    · rcases hc2 with rfl | rfl
      · exact pf_some (u' := (ctG u.1 (v / 1000) (v / 100 % 10) (v / 10 % 10) (v / 10 % 10 * (v % 10)), v / 10 % 10, v % 10)) (c99_X10_performOne (u := u) hK hu hv hok) (by unfold stL; rw [if_pos hc, if_pos hok, if_neg (show ¬ (99 : Int32) = 98 by decide)]) rfl rfl (fun k hk => ct_br hu hok hk)
      · refine pf_some (u' := (blG u.1 (v / 1000) (v / 100 % 10) (v / 10 % 10) (smG u.1 (v / 1000) (v / 100 % 10) (v / 10 % 10) (v / 10 % 10 * (v % 10)) / nI (v / 10 % 10 * (v % 10))) (v / 10 % 10 * (v % 10)), u.2.1, u.2.2)) (c98_X10_performOne (u := u) hK hu hv hok) (by unfold stL; rw [if_pos hc, if_pos hok, if_pos rfl]) rfl rfl (fun k hk => ?_)
        rw [smG_br hu hok _ (Nat.le_refl _)]
        exact bl_br hu hok _ hk
    · have hn : stL (c, v) u = none := by unfold stL; rw [if_pos hc, if_neg hok]
      rcases hc2 with rfl | rfl
      · exact pf_none hK hn (n99_X10_performOne hK hu hv hok)
      · exact pf_none hK hn (n98_X10_performOne hK hu hv hok)
  · have hc : c = 116 := hc
    have hv : v = 0 := hv
    subst hc hv
    exact pf_some (u' := (trG u.1 u.2.2 u.2.2 (u.2.2 * u.2.1), u.2.2, u.2.1)) (c116_X10_performOne (u := u) hK hu (by decide)) rfl rfl rfl (fun k hk => tr_br hu hk)
  · have hv : 1 ≤ v ∧ v ≤ 99 := hv
    have hc : c = 108 ∨ c = 109 ∨ c = 113 := hc
    rcases hc with rfl | rfl | rfl
    · exact pf_some (u' := (fun b => tnt (u.1 b) 108 (nI v), u.2.1, u.2.2)) (c108_X10_performOne (u := u) hK hu (by omega)) rfl rfl rfl (fun k hk => mp_br (F := fun z => shV z (nI v)) (F2 := fun z => tnt z 108 (nI v)) rfl (fun j hj c1 c2 => (sh_l (hu.2.2 j hj c1 c2) hv.2).1) hk)
    · exact pf_some (u' := (fun b => tnt (u.1 b) 109 (nI v), u.2.1, u.2.2)) (c109_X10_performOne (u := u) hK hu (by omega)) rfl rfl rfl (fun k hk => mp_br (F := fun z => shV z (-(nI v))) (F2 := fun z => tnt z 109 (nI v)) rfl (fun j hj c1 c2 => (sh_m (hu.2.2 j hj c1 c2) hv.2).1) hk)
    · exact pf_some (u' := (fun b => tnt (u.1 b) 113 (nI v), u.2.1, u.2.2)) (c113_X10_performOne (u := u) hK hu (by omega) hv) rfl rfl rfl (fun k hk => mp_br (F := fun z => swV z (nI v)) (F2 := fun z => tnt z 113 (nI v)) rfl (fun j hj c1 c2 => (sw_q (hu.2.2 j hj c1 c2) hv).1) hk)
/-- an act as the class keeps it -/
def enc (q : Int32 × Nat) : Int32 := q.1 * 10000 + nI q.2
theorem okA_c {q : Int32 × Nat} (h : okA q) : ∃ c : Nat, c ≤ 116 ∧ q.1 = nI c ∧ q.2 ≤ 9999 := by
  rcases h with ⟨h, h2⟩ | ⟨h, h2⟩ | ⟨h, h2⟩
  · rcases h with e | e
    · exact ⟨99, by omega, e, h2⟩
    · exact ⟨98, by omega, e, h2⟩
  · exact ⟨116, by omega, h, by omega⟩
  · rcases h with e | e | e
    · exact ⟨108, by omega, e, by omega⟩
    · exact ⟨109, by omega, e, by omega⟩
    · exact ⟨113, by omega, e, by omega⟩
theorem enc_q {q : Int32 × Nat} (h : okA q) : enc q / 10000 = q.1 ∧ enc q - enc q / 10000 * 10000 = nI q.2 := by
  obtain ⟨c, h1, h2, h3⟩ := okA_c h
  unfold enc
  rw [h2, show (10000 : Int32) = nI 10000 from rfl, pk_mul, nI_add, pk_rem (by omega) (by omega) (by omega), pk_div (by omega) (by omega) (by omega)]
  exact ⟨congrArg nI (by omega), congrArg nI (by omega)⟩
theorem dL_cons {u : HS} {q : Int32 × Nat} {l : List (Int32 × Nat)} : dL u (q :: l) = (stL q u).elim none (fun u' => dL u' l) := rfl

def rmX10_perform : Room := { frames := 3, cells := 0, slots := 0, locals := 89 }
set_option maxHeartbeats 4000000 in
set_option maxRecDepth 100000 in
theorem c_X10_perform {M0 : Mem} {n n2 : Int32} {p p2 : Value} {w h : Int32} {g : Nat → Int32} {u : HS} {a c N : Nat} {l : List (Int32 × Nat)} (hK : WKS M0 n p w h g) (hB : PV M0 a n2 (nI u.2.1) (nI u.2.2) (brG u) p2) (ha : 49 ≤ a) (hc : M0.2.1 c = (20, N)) (hcc : ¬ SW c) (hN : l.length ≤ N ∧ N ≤ 5) (hac : (∀ j, j < l.length → ∃ a, l[j]? = some a ∧ M0.2.2 c j = .int (enc a))) (hok : ∀ q, q ∈ l → okA q) (hu : HSk u) : AP mX10_perform rmX10_perform [.ref 12, .ref a, .ref c, .int (nI l.length)] M0 (some (.int (bi ((dL u l).isSome = true)))) (pfP M0 n p (dL u l)) := by
  refine am_of rfl rfl (ls := [some (.ref 12), some (.ref a), some (.ref c), some (.int (nI l.length)), none]) rfl ?_
  suffices HH : ∀ M, (WKS M n p w h g) → (PV M a n2 (nI u.2.1) (nI u.2.2) (brG u) p2) → (M.2.1 c = (20, N)) → ((∀ j, j < l.length → ∃ a, l[j]? = some a ∧ M.2.2 c j = .int (enc a))) → (FrS SW M0 M) → AW mX10_perform rmX10_perform (fun r' M' => r' = (some (.int (bi ((dL u l).isSome = true)))) ∧ (pfP M0 n p (dL u l)) M') 0 [some (.ref 12), some (.ref a), some (.ref c), some (.int (nI l.length)), none] [] M 0 0 from HH M0 hK hB hc hac (FrS.rf _ M0)
  intro M hK hB hc hac hS
  refine aw_aload0 0 dX10_perform_0 ?_
  refine aw_get 1 dX10_perform_1 ckF_RX10_14_10 hK.1 hK.2.1 ?_
  refine aw_aload1 4 dX10_perform_4 ?_
  refine ap_v0 5 dX10_perform_5 (c_X3_become hK.pv hB (by decide) (by omega) (by omega)) ckV_RX10_24 cd_X3_become hK.pv.1 vc3 rfl rfl (Nat.le_of_ble_eq_true rfl) ⟨⟨by decide, by decide⟩, by decide, by decide⟩ rfl (fun M hq => ?_)
  replace hS := hS.trans hq.1.b13
  replace hc : M.2.1 c = (20, N) := by rw [hq.1.2.1]; exact hc
  replace hac : (∀ j, j < l.length → ∃ a, l[j]? = some a ∧ M.2.2 c j = .int (enc a)) := fun j hj => by
    obtain ⟨a, h1, h2⟩ := hac j hj
    exact ⟨a, h1, by rw [hq.1.2.2 c (by unfold SW at hcc; omega)]; exact h2⟩
  replace hK := hK.bench hq.1 hq.2
  clear hq hB
  refine aw_ic0 8 dX10_perform_8 ?_
  refine aw_istore4 9 dX10_perform_9 rfl ?_
  have LP11 : ∀ (dd : Nat) (k : Nat) (u2 : HS) (M : Mem), l.length - k = dd → (k ≤ l.length) → (HSk u2) → (dL u l = dL u2 (l.drop k)) → (WKS M n p (nI u2.2.1) (nI u2.2.2) (brG u2)) → (M.2.1 c = (20, N)) → ((∀ j, j < l.length → ∃ a, l[j]? = some a ∧ M.2.2 c j = .int (enc a))) → (FrS SW M0 M) → AW mX10_perform rmX10_perform (fun r' M' => r' = (some (.int (bi ((dL u l).isSome = true)))) ∧ (pfP M0 n p (dL u l)) M') 11 [some (.ref 12), some (.ref a), some (.ref c), some (.int (nI l.length)), some (.int (nI k))] [] M 0 0 := by
    intro dd
    induction dd using Nat.strongRecOn with
    | _ dd ih11 =>
      intro k u2 M hdd hk hu2 hd hK hc hac hS
      refine aw_iload4 11 dX10_perform_11 ?_
      refine aw_iload3 13 dX10_perform_13 ?_
      refine aw_icmp_geN 14 55 (k) (l.length) dX10_perform_14 (by decide) rfl rfl (by omega) (by omega) (fun h14 => ?_) (fun h14 => ?_)
      · have he : k = l.length := by omega
        subst he
        have hz : dL u l = some u2 := by rw [hd, List.drop_length]; rfl
        refine aw_ic1 55 dX10_perform_55 ?_
        refine aw_zret 56 dX10_perform_56 rfl (by first | rfl | exact bi_nar | decide) (Nat.zero_le _) (Nat.zero_le _) ?_
        rw [hz]
        exact ⟨by rw [bi_t (show (some u2).isSome = true from rfl)], hS, ⟨_, _, _, hK⟩, fun _ e => by cases e; exact hK⟩
      · refine aw_iload4 17 dX10_perform_17 ?_
        refine aw_aload2 19 dX10_perform_19 ?_
        refine aw_alen 20 dX10_perform_20 hc ?_
        refine aw_icmp_geN 21 55 (k) (N) dX10_perform_21 (by decide) rfl rfl (by omega) (by omega) (fun h21 => ?_) (fun h21 => ?_)
        · have he : k = l.length := by omega
          subst he
          have hz : dL u l = some u2 := by rw [hd, List.drop_length]; rfl
          refine aw_ic1 55 dX10_perform_55 ?_
          refine aw_zret 56 dX10_perform_56 rfl (by first | rfl | exact bi_nar | decide) (Nat.zero_le _) (Nat.zero_le _) ?_
          rw [hz]
          exact ⟨by rw [bi_t (show (some u2).isSome = true from rfl)], hS, ⟨_, _, _, hK⟩, fun _ e => by cases e; exact hK⟩
        · obtain ⟨q, hlq, hkq⟩ := hac k h14
          have hoq := hok q (List.mem_of_getElem? hlq)
          have hen := enc_q hoq
          have hdr : l.drop k = q :: l.drop (k + 1) := by
            rw [List.drop_eq_getElem_cons h14]
            congr 1
            exact (List.getElem?_eq_some_iff.mp hlq).2
          refine aw_aload0 24 dX10_perform_24 ?_
          refine aw_aload2 25 dX10_perform_25 ?_
          refine aw_iload4 26 dX10_perform_26 ?_
          refine aw_iald 28 (k) dX10_perform_28 hc rfl (by omega) (by omega) hkq ?_
          refine aw_sipush 29 10000 dX10_perform_29 (by decide) ?_
          refine aw_idiv 32 dX10_perform_32 (by decide) ?_
          refine aw_topi (w := q.1) hen.1 ?_
          refine aw_aload2 33 dX10_perform_33 ?_
          refine aw_iload4 34 dX10_perform_34 ?_
          refine aw_iald 36 (k) dX10_perform_36 hc rfl (by omega) (by omega) hkq ?_
          refine aw_sipush 37 10000 dX10_perform_37 (by decide) ?_
          refine aw_irem 40 dX10_perform_40 (by decide) ?_
          refine aw_topi (w := nI q.2) hen.2 ?_
          refine ap_v1 41 dX10_perform_41 (c_X10_performOne hK hu2 hoq) ckV_RX10_28 cd_X10_performOne hK.1 vc10 rfl rfl (Nat.le_of_ble_eq_true rfl) ⟨⟨by decide, by decide⟩, by decide, by decide⟩ rfl (fun M hq => ?_)
          replace hc : M.2.1 c = (20, N) := by rw [hq.1.2.1]; exact hc
          replace hac : (∀ j, j < l.length → ∃ a, l[j]? = some a ∧ M.2.2 c j = .int (enc a)) := fun j hj => by
            obtain ⟨a, h1, h2⟩ := hac j hj
            exact ⟨a, h1, by rw [hq.1.2.2 c hcc]; exact h2⟩
          clear hkq
          refine aw_ifne_b 44 49 dX10_perform_44 (by decide) (fun h44 => ?_) (fun h44 => ?_)
          · obtain ⟨u3, hs3⟩ := Option.isSome_iff_exists.mp h44
            refine aw_iinc4 49 (nI (k + 1)) dX10_perform_49 (nI_1 _) rfl ?_
            refine aw_goto 52 11 dX10_perform_52 (by decide) ?_
            exact ih11 _ (by omega) (k + 1) u3 M rfl (by omega) (stL_ok hu2 hoq hs3) (by rw [hd, hdr, dL_cons, hs3]; rfl) (hq.2.2 u3 hs3) hc hac (hS.trans hq.1)
          · refine aw_ic0 47 dX10_perform_47 ?_
            refine aw_zret 48 dX10_perform_48 rfl (by first | rfl | exact bi_nar | decide) (Nat.zero_le _) (Nat.zero_le _) ?_
            have hs : stL q u2 = none := by
              cases hz : stL q u2 with
              | none => rfl
              | some z => rw [hz] at h44; exact absurd rfl h44
            have hz : dL u l = none := by rw [hd, hdr, dL_cons, hs]; rfl
            rw [hz]
            exact ⟨by rw [bi_f (by decide)], hS.trans hq.1, hq.2.1, fun _ e => by cases e⟩
  exact LP11 _ 0 u M rfl (by omega) hu rfl hK hc hac hS

