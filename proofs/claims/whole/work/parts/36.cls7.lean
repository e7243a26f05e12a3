/-! the class's world over the reference's table (gen/cls7.py) -/
abbrev AT : Type := Nat → Nat → Nat
/-- what was there is as it was, but for what cells of S hold -/
def Kp (S : Nat → Prop) (M M' : Mem) : Prop := M.1 ≤ M'.1 ∧ (∀ b, b < M.1 → M'.2.1 b = M.2.1 b) ∧ ∀ b, b < M.1 → ¬ S b → M'.2.2 b = M.2.2 b
theorem Kp.rf (S : Nat → Prop) (M : Mem) : Kp S M M := ⟨Nat.le_refl _, fun _ _ => rfl, fun _ _ _ => rfl⟩
theorem Kp.trans {S : Nat → Prop} {M M1 M2 : Mem} (h : Kp S M M1) (g : Kp S M1 M2) : Kp S M M2 := ⟨Nat.le_trans h.1 g.1, fun b hb => (g.2.1 b (Nat.lt_of_lt_of_le hb h.1)).trans (h.2.1 b hb), fun b hb hs => (g.2.2 b (Nat.lt_of_lt_of_le hb h.1) hs).trans (h.2.2 b hb hs)⟩
theorem Kp.mono {S T : Nat → Prop} {M M1 : Mem} (h : Kp S M M1) (hs : ∀ b, S b → T b) : Kp T M M1 := ⟨h.1, h.2.1, fun b hb ht => h.2.2 b hb (fun q => ht (hs b q))⟩
theorem FrS.kp {S : Nat → Prop} {M M1 : Mem} (h : FrS S M M1) : Kp S M M1 := ⟨by rw [h.1]; exact Nat.le_refl _, fun b _ => by rw [h.2.1], fun b _ hs => h.2.2 b hs⟩
theorem Wd.kp {a : Nat} {M M1 : Mem} (h : Wd a M M1) : Kp (fun b => b = a) M M1 := ⟨by rw [h.1]; exact Nat.le_refl _, fun b _ => by rw [h.2.1], fun b _ hs => h.2.2 b hs⟩
theorem Wd.kpS {S : Nat → Prop} {a : Nat} {M M1 : Mem} (h : Wd a M M1) (ha : S a) : Kp S M M1 := h.kp.mono (fun b q => q ▸ ha)
theorem Fa.kp {S : Nat → Prop} {A : Nat} {M M1 : Mem} (h : Fa A M M1) (hA : M.1 = A) (h1 : A ≤ M1.1) : Kp S M M1 := ⟨by rw [hA]; exact h1, fun b hb => (h b (hA ▸ hb)).1, fun b hb _ => (h b (hA ▸ hb)).2⟩
theorem NW.kp {S : Nat → Prop} {A : Nat} {kn : Nat × Nat} {f : Nat → Value} {M M1 : Mem} (h : NW A kn f M M1) (hA : M.1 = A) : Kp S M M1 := ⟨by rw [h.1, hA]; exact Nat.le_succ _, fun b hb => (h.2.2.2 b (by omega)).1, fun b hb _ => (h.2.2.2 b (by omega)).2⟩
/-- the script, the empty row and the reference are as they were -/
def Kr (M M' : Mem) : Prop := ∀ b, (b < 2 ∨ (25 ≤ b ∧ b < 49)) → M'.2.1 b = M.2.1 b ∧ M'.2.2 b = M.2.2 b
theorem Kp.kr {S : Nat → Prop} {M M' : Mem} (h : Kp S M M') (h49 : 49 ≤ M.1) (hS : ∀ b, S b → (2 ≤ b ∧ b < 25) ∨ 49 ≤ b) : Kr M M' := fun b hb => ⟨h.2.1 b (by omega), h.2.2 b (by omega) (fun q => by have := hS b q; omega)⟩
theorem Kr.trans {M M1 M2 : Mem} (h : Kr M M1) (g : Kr M1 M2) : Kr M M2 := fun b hb => ⟨(g b hb).1.trans (h b hb).1, (g b hb).2.trans (h b hb).2⟩
theorem Kr.rf (M : Mem) : Kr M M := fun _ _ => ⟨rfl, rfl⟩
/-- what is known of the table -/
def SQ (τ : TT) : Prop := ∀ p, p < nP τ → ∀ k, k < 16 → thr τ p k → irg (τ 4 (16 * p + k)) 0 99
def LK (τ : TT) : Prop := ∀ k, k < nK τ → irg (τ 26 k) 1 9 ∧ irg (τ 27 k) 0 99
/-- pictures that are not there have no line -/
def UN (τ : TT) : Prop := ∀ p, nP τ ≤ p → p < 12 → τ 16 p = -9
def GD (τ : TT) : Prop := WP τ ∧ WL τ ∧ WS τ ∧ WN τ ∧ WK τ ∧ SQ τ ∧ irg (τ 23 0) 0 20 ∧ LK τ ∧ UN τ
/-- the object's own fields -/
def XO (τ : TT) (M : Mem) : Prop := M.2.1 2 = (11, 13) ∧ M.2.2 2 0 = .ref 3 ∧ M.2.2 2 1 = .ref 4 ∧ M.2.2 2 2 = .ref 5 ∧ M.2.2 2 3 = .ref 6 ∧ M.2.2 2 4 = .ref 7 ∧ M.2.2 2 5 = .ref 9 ∧ M.2.2 2 6 = .ref 12 ∧ M.2.2 2 7 = .ref 16 ∧ M.2.2 2 8 = .int (τ 1 0) ∧ M.2.2 2 9 = .int (τ 13 0) ∧ M.2.2 2 10 = .int (τ 24 0) ∧ M.2.2 2 11 = .int (τ 23 0) ∧ M.2.2 2 12 = .int (τ 0 0)
def AXS (M : Mem) : Prop := M.2.1 1 = (20, 0) ∧ M.2.1 3 = (21, 12) ∧ M.2.1 4 = (22, 6) ∧ M.2.1 5 = (23, 9) ∧ M.2.1 6 = (24, 4) ∧ ∀ k, k < 4 → M.2.2 6 k = .ref (17 + 2 * k)
def SX (M : Mem) : Prop := TRE M ∧ RK M ∧ ∃ w h g, WKS M (-9) .null w h g
/-- scratch cells -/
abbrev SC (b : Nat) : Prop := b = 8 ∨ b = 9 ∨ b = 10 ∨ b = 11 ∨ b = 13 ∨ b = 14 ∨ b = 15
def SHp (τ : TT) (M : Mem) (k : Nat) : Prop := ∃ hr lane len c, SV M (17 + 2 * k) hr lane len c ∧ (τ 28 k < 0 → hr = 0) ∧ (¬ τ 28 k < 0 → hr = 1 ∧ lane = τ 29 k ∧ len = τ 28 k ∧ ∀ j, j < ssz τ k → c j = τ 30 (60 * k + j))
def pap (τ : TT) (α : AT) (p : Nat) : Value := if τ 16 p < 0 then .null else .ref (α 3 p)
def PCp (τ : TT) (α : AT) (M : Mem) (p : Nat) : Prop := 49 ≤ α 0 p ∧ α 0 p + 1 < M.1 ∧ M.2.2 3 p = .ref (α 0 p) ∧ PV M (α 0 p) (nI p) (τ 2 p) (τ 3 p) (brG (hOf τ p)) (pap τ α p)
def LCp (τ : TT) (α : AT) (M : Mem) (l : Nat) : Prop := 49 ≤ α 1 l ∧ α 1 l < M.1 ∧ M.2.2 4 l = .ref (α 1 l) ∧ M.2.1 (α 1 l) = (1, 3) ∧ M.2.2 (α 1 l) 0 = .int (nI l) ∧ M.2.2 (α 1 l) 1 = .int (τ 14 l) ∧ M.2.2 (α 1 l) 2 = .int (τ 15 l)
def NC0 (τ : TT) (α : AT) (M : Mem) (p : Nat) : Prop := τ 16 p = 0 ∧ M.2.1 (α 3 p) = (7, 3) ∧ M.2.2 (α 3 p) 0 = .ref (α 1 (dgt (τ 17) p)) ∧ M.2.2 (α 3 p) 1 = .int (τ 18 p) ∧ M.2.2 (α 3 p) 2 = .int (τ 19 p) ∧ τ 20 p = -9 ∧ τ 21 p = 0
def NC1 (τ : TT) (α : AT) (M : Mem) (p : Nat) : Prop := τ 16 p = 1 ∧ M.2.1 (α 3 p) = (0, 5) ∧ M.2.2 (α 3 p) 0 = .ref (α 1 (dgt (τ 17) p)) ∧ M.2.2 (α 3 p) 1 = .int (τ 18 p) ∧ M.2.2 (α 3 p) 2 = .int (τ 19 p) ∧ M.2.2 (α 3 p) 3 = .ref (α 0 (dgt (τ 20) p)) ∧ M.2.2 (α 3 p) 4 = .ref (α 4 p) ∧ 49 ≤ α 4 p ∧ α 4 p < M.1 ∧ ∃ l : List (Int32 × Nat), l.length ≤ 5 ∧ (∀ q, q ∈ l → okA q) ∧ τ 21 p = nI l.length ∧ M.2.1 (α 4 p) = (20, l.length) ∧ KA M (α 4 p) l ∧ ∀ j, j < l.length → ∃ a, l[j]? = some a ∧ actR (τ 22) (25 * p + 5 * j) a
def NC2 (τ : TT) (α : AT) (M : Mem) (p : Nat) : Prop := τ 16 p = 2 ∧ M.2.1 (α 3 p) = (6, 5) ∧ M.2.2 (α 3 p) 2 = .ref (α 1 (dgt (τ 17) p)) ∧ M.2.2 (α 3 p) 3 = .int (τ 18 p) ∧ M.2.2 (α 3 p) 4 = .int (τ 19 p) ∧ M.2.2 (α 3 p) 0 = .ref (α 0 (dgt (τ 20) p)) ∧ M.2.2 (α 3 p) 1 = .ref 1 ∧ τ 21 p = 0
def NCp (τ : TT) (α : AT) (M : Mem) (p : Nat) : Prop := 49 ≤ α 3 p ∧ α 3 p < M.1 ∧ (NC0 τ α M p ∨ NC1 τ α M p ∨ NC2 τ α M p)
def KCp (τ : TT) (α : AT) (M : Mem) (k : Nat) : Prop := 49 ≤ α 2 k ∧ α 2 k < M.1 ∧ M.2.2 5 k = .ref (α 2 k) ∧ M.2.1 (α 2 k) = (2, 3) ∧ M.2.2 (α 2 k) 0 = .ref (α 0 (dgt (τ 25) k)) ∧ M.2.2 (α 2 k) 1 = .int (τ 26 k) ∧ M.2.2 (α 2 k) 2 = .int (τ 27 k)
def CW (τ : TT) (α : AT) (M : Mem) : Prop := GD τ ∧ 49 ≤ M.1 ∧ XO τ M ∧ AXS M ∧ SX M ∧ TV M (τ 32 0) ∧ (∀ k, k < 4 → SHp τ M k) ∧ (∀ p, p < nP τ → PCp τ α M p) ∧ (∀ l, l < nL τ → LCp τ α M l) ∧ (∀ p, p < nP τ → ¬ τ 16 p < 0 → NCp τ α M p) ∧ ∀ k, k < nK τ → KCp τ α M k
section
variable {τ : TT} {α : AT} {M M' : Mem}

theorem CW.gd (h : CW τ α M) : GD τ := h.1
theorem CW.m1 (h : CW τ α M) : 49 ≤ M.1 := h.2.1
theorem CW.xo (h : CW τ α M) : XO τ M := h.2.2.1
theorem CW.ax (h : CW τ α M) : AXS M := h.2.2.2.1
theorem CW.sx (h : CW τ α M) : SX M := h.2.2.2.2.1
theorem CW.tv (h : CW τ α M) : TV M (τ 32 0) := h.2.2.2.2.2.1
theorem CW.sh (h : CW τ α M) : ∀ k, k < 4 → SHp τ M k := h.2.2.2.2.2.2.1
theorem CW.pc (h : CW τ α M) : ∀ p, p < nP τ → PCp τ α M p := h.2.2.2.2.2.2.2.1
theorem CW.lc (h : CW τ α M) : ∀ l, l < nL τ → LCp τ α M l := h.2.2.2.2.2.2.2.2.1
theorem CW.nc (h : CW τ α M) : ∀ p, p < nP τ → ¬ τ 16 p < 0 → NCp τ α M p := h.2.2.2.2.2.2.2.2.2.1
theorem CW.kc (h : CW τ α M) : ∀ k, k < nK τ → KCp τ α M k := h.2.2.2.2.2.2.2.2.2.2
theorem CW.wp (h : CW τ α M) : WP τ := h.gd.1
theorem CW.wl (h : CW τ α M) : WL τ := h.gd.2.1
theorem CW.ws (h : CW τ α M) : WS τ := h.gd.2.2.1
theorem CW.wn (h : CW τ α M) : WN τ := h.gd.2.2.2.1
theorem CW.wk (h : CW τ α M) : WK τ := h.gd.2.2.2.2.1
theorem CW.sq (h : CW τ α M) : SQ τ := h.gd.2.2.2.2.2.1
theorem CW.wi (h : CW τ α M) : irg (τ 23 0) 0 20 := h.gd.2.2.2.2.2.2.1
theorem CW.lk (h : CW τ α M) : LK τ := h.gd.2.2.2.2.2.2.2.1
theorem CW.un (h : CW τ α M) : UN τ := h.gd.2.2.2.2.2.2.2.2
theorem AR.kp {S : Nat → Prop} {b n : Nat} {g : Nat → Int32} (h : AR M b n g) (k : Kp S M M') (hb : b < M.1) (hs : ¬ S b) : AR M' b n g := ⟨(k.2.1 b hb).trans h.1, fun j hj => by rw [k.2.2 b hb hs]; exact h.2 j hj⟩
theorem PV.kp {S : Nat → Prop} {a : Nat} {n w h : Int32} {g : Nat → Int32} {q : Value} (p : PV M a n w h g q) (k : Kp S M M') (hb : a + 1 < M.1) (h1 : ¬ S a) (h2 : ¬ S (a + 1)) : PV M' a n w h g q := by
  have e := k.2.2 a (by omega) h1
  exact ⟨(k.2.1 a (by omega)).trans p.1, by rw [e]; exact p.2.1, by rw [e]; exact p.2.2.1, by rw [e]; exact p.2.2.2.1, by rw [e]; exact p.2.2.2.2.1, by rw [e]; exact p.2.2.2.2.2.1, p.2.2.2.2.2.2.kp k hb h2⟩
theorem SV.kp {S : Nat → Prop} {s : Nat} {hr lane len : Int32} {c : Nat → Int32} (p : SV M s hr lane len c) (k : Kp S M M') (hb : s + 1 < M.1) (h1 : ¬ S s) (h2 : ¬ S (s + 1)) : SV M' s hr lane len c := by
  have e := k.2.2 s (by omega) h1
  exact ⟨(k.2.1 s (by omega)).trans p.1, by rw [e]; exact p.2.1, by rw [e]; exact p.2.2.1, by rw [e]; exact p.2.2.2.1, by rw [e]; exact p.2.2.2.2.1, p.2.2.2.2.2.kp k hb h2⟩
theorem KA.kp {S : Nat → Prop} {c : Nat} {l : List (Int32 × Nat)} (h : KA M c l) (k : Kp S M M') (hb : c < M.1) (hs : ¬ S c) : KA M' c l := fun j hj => by
  obtain ⟨b, h1, h2⟩ := h j hj
  exact ⟨b, h1, by rw [k.2.2 c hb hs]; exact h2⟩
theorem XO.kp {S : Nat → Prop} (h : XO τ M) (k : Kp S M M') (hb : 49 ≤ M.1) (hs : ¬ S 2) : XO τ M' := by
  have e := k.2.2 2 (by omega) hs
  unfold XO
  rw [e, k.2.1 2 (by omega)]
  exact h
theorem AXS.kp {S : Nat → Prop} (h : AXS M) (k : Kp S M M') (hb : 49 ≤ M.1) (hs : ¬ S 6) : AXS M' := by
  unfold AXS
  rw [k.2.2 6 (by omega) hs, k.2.1 1 (by omega), k.2.1 3 (by omega), k.2.1 4 (by omega), k.2.1 5 (by omega), k.2.1 6 (by omega)]
  exact h
theorem TV.kp {S : Nat → Prop} {x : Int32} (h : TV M x) (k : Kp S M M') (hb : 49 ≤ M.1) (hs : ¬ S 16) : TV M' x := ⟨(k.2.1 16 (by omega)).trans h.1, by rw [k.2.2 16 (by omega) hs]; exact h.2⟩
theorem SX.kp {S : Nat → Prop} (h : SX M) (k : Kp S M M') (hb : 49 ≤ M.1) (hs : ∀ b, 7 ≤ b → b ≤ 15 → ¬ S b) : SX M' := by
  obtain ⟨h1, h2, w, hh, g, h3⟩ := h
  refine ⟨⟨(k.2.1 7 (by omega)).trans h1.1, ?_, (k.2.1 8 (by omega)).trans h1.2.2⟩, ⟨(k.2.1 9 (by omega)).trans h2.1, ?_, ?_, (k.2.1 10 (by omega)).trans h2.2.2.2.1, (k.2.1 11 (by omega)).trans h2.2.2.2.2⟩, w, hh, g, (k.2.1 12 (by omega)).trans h3.1, ?_, ?_, (k.2.1 15 (by omega)).trans h3.2.2.2.1, h3.2.2.2.2.kp k (by omega) (hs _ (by omega) (by omega)) (hs _ (by omega) (by omega))⟩
  · rw [k.2.2 7 (by omega) (hs _ (by omega) (by omega))]; exact h1.2.1
  · rw [k.2.2 9 (by omega) (hs _ (by omega) (by omega))]; exact h2.2.1
  · rw [k.2.2 9 (by omega) (hs _ (by omega) (by omega))]; exact h2.2.2.1
  · rw [k.2.2 12 (by omega) (hs _ (by omega) (by omega))]; exact h3.2.1
  · rw [k.2.2 12 (by omega) (hs _ (by omega) (by omega))]; exact h3.2.2.1
theorem SHp.kp {S : Nat → Prop} {j : Nat} (h : SHp τ M j) (hj : j < 4) (k : Kp S M M') (hb : 49 ≤ M.1) (h1 : ¬ S (17 + 2 * j)) (h2 : ¬ S (17 + 2 * j + 1)) : SHp τ M' j := by
  obtain ⟨a, b, c, d, h3, h4⟩ := h
  exact ⟨a, b, c, d, h3.kp k (by omega) h1 h2, h4⟩
theorem PCp.kp {S : Nat → Prop} {p : Nat} (h : PCp τ α M p) (k : Kp S M M') (hb : 49 ≤ M.1) (h3 : ¬ S 3) (h1 : ¬ S (α 0 p)) (h2 : ¬ S (α 0 p + 1)) : PCp τ α M' p := ⟨h.1, Nat.lt_of_lt_of_le h.2.1 k.1, by rw [k.2.2 3 (by omega) h3]; exact h.2.2.1, h.2.2.2.kp k h.2.1 h1 h2⟩
theorem LCp.kp {S : Nat → Prop} {p : Nat} (h : LCp τ α M p) (k : Kp S M M') (hb : 49 ≤ M.1) (h3 : ¬ S 4) (h1 : ¬ S (α 1 p)) : LCp τ α M' p := by
  have e := k.2.2 (α 1 p) h.2.1 h1
  exact ⟨h.1, Nat.lt_of_lt_of_le h.2.1 k.1, by rw [k.2.2 4 (by omega) h3]; exact h.2.2.1, (k.2.1 _ h.2.1).trans h.2.2.2.1, by rw [e]; exact h.2.2.2.2.1, by rw [e]; exact h.2.2.2.2.2.1, by rw [e]; exact h.2.2.2.2.2.2⟩
theorem KCp.kp {S : Nat → Prop} {p : Nat} (h : KCp τ α M p) (k : Kp S M M') (hb : 49 ≤ M.1) (h3 : ¬ S 5) (h1 : ¬ S (α 2 p)) : KCp τ α M' p := by
  have e := k.2.2 (α 2 p) h.2.1 h1
  exact ⟨h.1, Nat.lt_of_lt_of_le h.2.1 k.1, by rw [k.2.2 5 (by omega) h3]; exact h.2.2.1, (k.2.1 _ h.2.1).trans h.2.2.2.1, by rw [e]; exact h.2.2.2.2.1, by rw [e]; exact h.2.2.2.2.2.1, by rw [e]; exact h.2.2.2.2.2.2⟩
theorem NCp.kp {S : Nat → Prop} {p : Nat} (h : NCp τ α M p) (k : Kp S M M') (h1 : ¬ S (α 3 p)) (h2 : NC1 τ α M p → ¬ S (α 4 p)) : NCp τ α M' p := by
  have e := k.2.2 (α 3 p) h.2.1 h1
  have e2 := k.2.1 (α 3 p) h.2.1
  refine ⟨h.1, Nat.lt_of_lt_of_le h.2.1 k.1, ?_⟩
  rcases h.2.2 with h3 | h3 | h3
  · refine Or.inl ?_
    unfold NC0
    rw [e, e2]
    exact h3
  · refine Or.inr (Or.inl ?_)
    obtain ⟨a1, a2, a3, a4, a5, a6, a7, a8, a9, l, b1, b2, b3, b4, b5, b6⟩ := id h3
    unfold NC1
    rw [e, e2, k.2.1 _ a9]
    exact ⟨a1, a2, a3, a4, a5, a6, a7, a8, Nat.lt_of_lt_of_le a9 k.1, l, b1, b2, b3, b4, b5.kp k a9 (h2 h3), b6⟩
  · refine Or.inr (Or.inr ?_)
    unfold NC2
    rw [e, e2]
    exact h3
/-- kinds of the cells that the world names -/
theorem NCp.kd {p : Nat} (h : NCp τ α M p) : M.2.1 (α 3 p) = (7, 3) ∨ M.2.1 (α 3 p) = (0, 5) ∨ M.2.1 (α 3 p) = (6, 5) := by
  rcases h.2.2 with h | h | h
  · exact Or.inl h.2.1
  · exact Or.inr (Or.inl h.2.1)
  · exact Or.inr (Or.inr h.2.1)
theorem NC1.kd {p : Nat} (h : NC1 τ α M p) : ∃ m, m ≤ 5 ∧ M.2.1 (α 4 p) = (20, m) := by
  obtain ⟨-, -, -, -, -, -, -, -, -, l, b1, -, -, b4, -, -⟩ := h
  exact ⟨_, b1, b4⟩
/-- only low cells have changed, none that hold the world's arrays of objects -/
theorem CW.low {S : Nat → Prop} {τ' : TT} (h : CW τ α M) (k : Kp S M M') (hS : ∀ b, S b → b < 49 ∧ b ≠ 3 ∧ b ≠ 4 ∧ b ≠ 5 ∧ b ≠ 6) (hgd : GD τ') (hx : XO τ' M') (hsx : SX M') (ht : TV M' (τ' 32 0)) (hsh : ∀ j, j < 4 → SHp τ' M' j)
    (e1 : τ' 1 = τ 1) (e2 : τ' 2 = τ 2) (e3 : τ' 3 = τ 3) (e4 : τ' 4 = τ 4) (e13 : τ' 13 = τ 13) (e14 : τ' 14 = τ 14) (e15 : τ' 15 = τ 15) (e16 : τ' 16 = τ 16) (e17 : τ' 17 = τ 17) (e18 : τ' 18 = τ 18) (e19 : τ' 19 = τ 19) (e20 : τ' 20 = τ 20) (e21 : τ' 21 = τ 21) (e22 : τ' 22 = τ 22) (e24 : τ' 24 = τ 24) (e25 : τ' 25 = τ 25) (e26 : τ' 26 = τ 26) (e27 : τ' 27 = τ 27) : CW τ' α M' := by
  have hm := h.m1
  have hp : nP τ' = nP τ := by unfold nP; rw [e1]
  have hl : nL τ' = nL τ := by unfold nL; rw [e13]
  have hk : nK τ' = nK τ := by unfold nK; rw [e24]
  refine ⟨hgd, Nat.le_trans hm k.1, hx, h.ax.kp k hm (fun q => by have := hS _ q; omega), hsx, ht, hsh, ?_, ?_, ?_, ?_⟩
  · intro p q
    rw [hp] at q
    have c := h.pc p q
    have c2 := c.kp k hm (fun q => by have := hS _ q; omega) (fun q => by have := hS _ q; have := c.1; omega) (fun q => by have := hS _ q; have := c.1; omega)
    unfold PCp hOf pap wd hg
    rw [e2, e3, e4, e16]
    exact c2
  · intro p q
    rw [hl] at q
    have c := h.lc p q
    have c2 := c.kp k hm (fun q => by have := hS _ q; omega) (fun q => by have := hS _ q; have := c.1; omega)
    unfold LCp
    rw [e14, e15]
    exact c2
  · intro p q r
    rw [hp] at q
    rw [e16] at r
    have c := h.nc p q r
    have c2 := c.kp k (fun q => by have := hS _ q; have := c.1; omega) (fun z q => by have := hS _ q; have := z.2.2.2.2.2.2.2.1; omega)
    unfold NCp NC0 NC1 NC2
    rw [e16, e17, e18, e19, e20, e21, e22]
    exact c2
  · intro p q
    rw [hk] at q
    have c := h.kc p q
    have c2 := c.kp k hm (fun q => by have := hS _ q; omega) (fun q => by have := hS _ q; have := c.1; omega)
    unfold KCp
    rw [e25, e26, e27]
    exact c2
/-- scratch alone has changed -/
theorem CW.scw (h : CW τ α M) (k : Kp SC M M') (hsx : SX M') : CW τ α M' := by
  have hm := h.m1
  exact h.low k (fun b q => by unfold SC at q; omega) h.gd (h.xo.kp k hm (by decide)) hsx (h.tv.kp k hm (by decide)) (fun j hj => (h.sh j hj).kp hj k hm (fun q => by unfold SC at q; omega) (fun q => by unfold SC at q; omega)) rfl rfl rfl rfl rfl rfl rfl rfl rfl rfl rfl rfl rfl rfl rfl rfl rfl rfl
theorem CW.obs {σ : TT} (h : CW τ α M) (ho : Obs σ τ) : CW σ α M := by
  have e : σ = fun i => if scr i then σ i else τ i := by
    funext i
    by_cases c : scr i
    · rw [if_pos c]
    · rw [if_neg c]; exact ho i c
  rw [e]
  exact h
theorem XO.flt {v : Int32} (h : XO τ M) (f : Wf 2 12 (.int v) M M') : XO (tu τ 0 0 v) M' := by
  have e := fun j (hj : j ≠ 12) => f.2.2.2 2 j (by omega)
  obtain ⟨a, b0, b1, b2, b3, b4, b5, b6, b7, b8, b9, b10, b11, b12⟩ := h
  exact ⟨by rw [f.2.1]; exact a, (e _ (by decide)).trans b0, (e _ (by decide)).trans b1, (e _ (by decide)).trans b2, (e _ (by decide)).trans b3, (e _ (by decide)).trans b4, (e _ (by decide)).trans b5, (e _ (by decide)).trans b6, (e _ (by decide)).trans b7, (e _ (by decide)).trans b8, (e _ (by decide)).trans b9, (e _ (by decide)).trans b10, (e _ (by decide)).trans b11, f.2.2.1⟩
theorem XO.win {v : Int32} (h : XO τ M) (f : Wf 2 11 (.int v) M M') : XO (tu τ 23 0 v) M' := by
  have e := fun j (hj : j ≠ 11) => f.2.2.2 2 j (by omega)
  obtain ⟨a, b0, b1, b2, b3, b4, b5, b6, b7, b8, b9, b10, b11, b12⟩ := h
  exact ⟨by rw [f.2.1]; exact a, (e _ (by decide)).trans b0, (e _ (by decide)).trans b1, (e _ (by decide)).trans b2, (e _ (by decide)).trans b3, (e _ (by decide)).trans b4, (e _ (by decide)).trans b5, (e _ (by decide)).trans b6, (e _ (by decide)).trans b7, (e _ (by decide)).trans b8, (e _ (by decide)).trans b9, (e _ (by decide)).trans b10, f.2.2.1, (e _ (by decide)).trans b12⟩
/-- how many pictures, lenses, looks -/
theorem XO.npi {v : Int32} (h : XO τ M) (f : Wf 2 8 (.int v) M M') : XO (tu τ 1 0 v) M' := by
  have e := fun j (hj : j ≠ 8) => f.2.2.2 2 j (by omega)
  obtain ⟨a, b0, b1, b2, b3, b4, b5, b6, b7, b8, b9, b10, b11, b12⟩ := h
  exact ⟨by rw [f.2.1]; exact a, (e _ (by decide)).trans b0, (e _ (by decide)).trans b1, (e _ (by decide)).trans b2, (e _ (by decide)).trans b3, (e _ (by decide)).trans b4, (e _ (by decide)).trans b5, (e _ (by decide)).trans b6, (e _ (by decide)).trans b7, f.2.2.1, (e _ (by decide)).trans b9, (e _ (by decide)).trans b10, (e _ (by decide)).trans b11, (e _ (by decide)).trans b12⟩
theorem XO.nle {v : Int32} (h : XO τ M) (f : Wf 2 9 (.int v) M M') : XO (tu τ 13 0 v) M' := by
  have e := fun j (hj : j ≠ 9) => f.2.2.2 2 j (by omega)
  obtain ⟨a, b0, b1, b2, b3, b4, b5, b6, b7, b8, b9, b10, b11, b12⟩ := h
  exact ⟨by rw [f.2.1]; exact a, (e _ (by decide)).trans b0, (e _ (by decide)).trans b1, (e _ (by decide)).trans b2, (e _ (by decide)).trans b3, (e _ (by decide)).trans b4, (e _ (by decide)).trans b5, (e _ (by decide)).trans b6, (e _ (by decide)).trans b7, (e _ (by decide)).trans b8, f.2.2.1, (e _ (by decide)).trans b10, (e _ (by decide)).trans b11, (e _ (by decide)).trans b12⟩
theorem XO.nlo {v : Int32} (h : XO τ M) (f : Wf 2 10 (.int v) M M') : XO (tu τ 24 0 v) M' := by
  have e := fun j (hj : j ≠ 10) => f.2.2.2 2 j (by omega)
  obtain ⟨a, b0, b1, b2, b3, b4, b5, b6, b7, b8, b9, b10, b11, b12⟩ := h
  exact ⟨by rw [f.2.1]; exact a, (e _ (by decide)).trans b0, (e _ (by decide)).trans b1, (e _ (by decide)).trans b2, (e _ (by decide)).trans b3, (e _ (by decide)).trans b4, (e _ (by decide)).trans b5, (e _ (by decide)).trans b6, (e _ (by decide)).trans b7, (e _ (by decide)).trans b8, (e _ (by decide)).trans b9, f.2.2.1, (e _ (by decide)).trans b11, (e _ (by decide)).trans b12⟩
theorem CW.flt {v : Int32} (h : CW τ α M) (f : Wf 2 12 (.int v) M M') : CW (tu τ 0 0 v) α M' := by
  have hm := h.m1
  have k := f.toWd.kp
  exact h.low k (fun b q => by omega) h.gd (h.xo.flt f) (h.sx.kp k hm (fun b _ _ => by omega)) (h.tv.kp k hm (by decide)) (fun j hj => (h.sh j hj).kp hj k hm (by omega) (by omega)) rfl rfl rfl rfl rfl rfl rfl rfl rfl rfl rfl rfl rfl rfl rfl rfl rfl rfl
theorem CW.win {v : Int32} (h : CW τ α M) (f : Wf 2 11 (.int v) M M') (hv : irg v 0 20) : CW (tu τ 23 0 v) α M' := by
  have hm := h.m1
  have k := f.toWd.kp
  obtain ⟨g1, g2, g3, g4, g5, g6, -, g8⟩ := h.gd
  exact h.low k (fun b q => by omega) ⟨g1, g2, g3, g4, g5, g6, hv, g8⟩ (h.xo.win f) (h.sx.kp k hm (fun b _ _ => by omega)) (h.tv.kp k hm (by decide)) (fun j hj => (h.sh j hj).kp hj k hm (by omega) (by omega)) rfl rfl rfl rfl rfl rfl rfl rfl rfl rfl rfl rfl rfl rfl rfl rfl rfl rfl
theorem CW.trw {v : Int32} (h : CW τ α M) (f : Wf 16 0 (.int v) M M') : CW (tu τ 32 0 v) α M' := by
  have hm := h.m1
  have k := f.toWd.kp
  exact h.low k (fun b q => by omega) h.gd (h.xo.kp k hm (by decide)) (h.sx.kp k hm (fun b _ _ => by omega)) (h.tv.wf f) (fun j hj => (h.sh j hj).kp hj k hm (by omega) (by omega)) rfl rfl rfl rfl rfl rfl rfl rfl rfl rfl rfl rfl rfl rfl rfl rfl rfl rfl
/-- a sheet's row in the table, and the sheet -/
theorem CW.she {S : Nat → Prop} {k0 : Nat} {τ' : TT} (h : CW τ α M) (k : Kp S M M') (hk : k0 < 4) (hS : ∀ b, S b → b = 17 + 2 * k0 ∨ b = 17 + 2 * k0 + 1) (hsh : SHp τ' M' k0) (ho : ∀ j, j < 4 → j ≠ k0 → τ' 28 j = τ 28 j ∧ τ' 29 j = τ 29 j ∧ ∀ i, i < 60 → τ' 30 (60 * j + i) = τ 30 (60 * j + i)) (hw : WS τ') (he : ∀ i, i ≠ 28 → i ≠ 29 → i ≠ 30 → τ' i = τ i) : CW τ' α M' := by
  have hm := h.m1
  obtain ⟨g1, g2, g3, g4, g5, g6, g7, g8⟩ := h.gd
  have e := fun i (h1 : i ≠ 28 ∧ i ≠ 29 ∧ i ≠ 30) => he i h1.1 h1.2.1 h1.2.2
  refine h.low k (fun b q => by have := hS b q; omega) ⟨g1.of (e 1 (by decide)) (e 2 (by decide)) (e 3 (by decide)), ?_, hw, ?_, ?_, ?_, by rw [e 23 (by decide)]; exact g7, ?_, ?_⟩ ?_ (h.sx.kp k hm (fun b _ _ q => by have := hS b q; omega)) ?_ ?_ (e 1 (by decide)) (e 2 (by decide)) (e 3 (by decide)) (e 4 (by decide)) (e 13 (by decide)) (e 14 (by decide)) (e 15 (by decide)) (e 16 (by decide)) (e 17 (by decide)) (e 18 (by decide)) (e 19 (by decide)) (e 20 (by decide)) (e 21 (by decide)) (e 22 (by decide)) (e 24 (by decide)) (e 25 (by decide)) (e 26 (by decide)) (e 27 (by decide))
  · unfold WL nL; rw [e 13 (by decide)]; exact g2
  · unfold WN lnOK nP nL; rw [e 1 (by decide), e 13 (by decide), e 16 (by decide), e 17 (by decide), e 18 (by decide), e 20 (by decide), e 21 (by decide), e 22 (by decide)]; exact g4
  · unfold WK nK nP; rw [e 24 (by decide), e 25 (by decide), e 1 (by decide)]; exact g5
  · unfold SQ thr nP wd hg; rw [e 1 (by decide), e 2 (by decide), e 3 (by decide), e 4 (by decide)]; exact g6
  · unfold LK nK; rw [e 24 (by decide), e 26 (by decide), e 27 (by decide)]; exact g8.1
  · unfold UN nP; rw [e 1 (by decide), e 16 (by decide)]; exact g8.2
  · have hx := h.xo.kp k hm (fun q => by have := hS _ q; omega)
    unfold XO
    rw [e 1 (by decide), e 13 (by decide), e 24 (by decide), e 23 (by decide), e 0 (by decide)]
    exact hx
  · rw [e 32 (by decide)]
    exact h.tv.kp k hm (fun q => by have := hS _ q; omega)
  · intro j hj
    by_cases c : j = k0
    · rw [c]; exact hsh
    · obtain ⟨o1, o2, o3⟩ := ho j hj c
      obtain ⟨a, b, d, f, h3, h4, h5⟩ := (h.sh j hj).kp hj k hm (fun q => by have := hS _ q; omega) (fun q => by have := hS _ q; omega)
      refine ⟨a, b, d, f, h3, by rw [o1]; exact h4, ?_⟩
      rw [o1, o2]
      intro z
      obtain ⟨z1, z2, z3, z4⟩ := h5 z
      have h60 := ((g3.ok hj z).1)
      have hs : ssz τ' j = ssz τ j := by unfold ssz; rw [o1]
      exact ⟨z1, z2, z3, fun i hi => by rw [hs] at hi; rw [o3 i (by omega)]; exact z4 i hi⟩
end
/-- a contract of the class's object -/
def CK (Z : YY) (rm : Room) (as : List Value) (M : Mem) (r : Value) (τ' : TT) : Prop := AP Z rm (.ref 2 :: as) M (some r) (fun M' => Kr M M' ∧ ∃ α', CW τ' α' M')

