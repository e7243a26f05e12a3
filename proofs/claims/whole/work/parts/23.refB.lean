/-! the reference: acts done (rows laid by gen/refB.py) -/
/-- what acts are as read: code and numbers -/
def actOK (A : Nat → Int32) (a : Nat) : Prop :=
  (∃ x y w h : Nat, (A a = 99 ∨ A a = 98) ∧ A (a + 1) = nI x ∧ A (a + 2) = nI y ∧ A (a + 3) = nI w ∧ A (a + 4) = nI h ∧ (x ≤ 9 ∧ y ≤ 9 ∧ w ≤ 9 ∧ h ≤ 9)) ∨ A a = 116 ∨
  ∃ d : Nat, (A a = 108 ∨ A a = 109 ∨ A a = 113) ∧ A (a + 1) = nI d ∧ 1 ≤ d ∧ d ≤ 99
def dgt (A : Nat → Int32) (k : Nat) : Nat := (A k).toNatClampNeg
def hWd (τ : TT) : Nat := (τ 9 0).toNatClampNeg
def hHg (τ : TT) : Nat := (τ 10 0).toNatClampNeg
def WHd (τ : TT) : Prop := (τ 9 0 = nI (hWd τ) ∧ 1 ≤ hWd τ ∧ hWd τ ≤ 4) ∧ (τ 10 0 = nI (hHg τ) ∧ 1 ≤ hHg τ ∧ hHg τ ≤ 4)
def tTn (τ : TT) (c b : Int32) : TT := ov τ 11 0 16 (fun k => tnt (τ 11 k) c b)
abbrev fitP (τ : TT) (x y w h : Nat) : Prop := 1 ≤ w ∧ 1 ≤ h ∧ x + w ≤ hWd τ ∧ y + h ≤ hHg τ
def stp (f a : Nat) (σ : TT) : Bool × TT :=
  if σ f a = 99 ∨ σ f a = 98 then
    if fitP σ (dgt (σ f) (a + 1)) (dgt (σ f) (a + 2)) (dgt (σ f) (a + 3)) (dgt (σ f) (a + 4)) then
      (true, if σ f a = 98 then tBl σ (dgt (σ f) (a + 1)) (dgt (σ f) (a + 2)) (dgt (σ f) (a + 3)) (dgt (σ f) (a + 4)) else tCt σ (dgt (σ f) (a + 1)) (dgt (σ f) (a + 2)) (dgt (σ f) (a + 3)) (dgt (σ f) (a + 4)))
    else (false, σ)
  else if σ f a = 116 then (true, tTr σ (hWd σ) (hHg σ)) else (true, tTn σ (σ f a) (σ f (a + 1)))
def dAs (f fr : Nat) (τ : TT) : Nat → Bool × TT
  | 0 => (true, τ)
  | n + 1 => if (dAs f fr τ n).1 = true then stp f (fr + 5 * n) (dAs f fr τ n).2 else dAs f fr τ n
theorem dAs_s {f fr : Nat} {τ σ : TT} {n : Nat} (h : dAs f fr τ n = (true, σ)) : dAs f fr τ (n + 1) = stp f (fr + 5 * n) σ := by
  show ite _ _ _ = _
  rw [h, if_pos rfl]
theorem dAs_f {f fr : Nat} {τ σ : TT} {n : Nat} (h : dAs f fr τ n = (false, σ)) : ∀ m, n ≤ m → dAs f fr τ m = (false, σ) := by
  intro m hm
  obtain ⟨d, rfl⟩ : ∃ d, m = n + d := ⟨m - n, by omega⟩
  clear hm
  induction d with
  | zero => exact h
  | succ d ih =>
    show (if (dAs f fr τ (n + d)).1 = true then stp f (fr + 5 * (n + d)) (dAs f fr τ (n + d)).2 else dAs f fr τ (n + d)) = (false, σ)
    rw [ih, if_neg (show ¬ ((false, σ) : Bool × TT).1 = true from Bool.false_ne_true)]
theorem dgt_n {A : Nat → Int32} {k n : Nat} (h : A k = nI n) (hn : n ≤ 100) : dgt A k = n := by
  unfold dgt
  rw [h, nI_clamp (by omega)]
theorem stp_b {f a x y w h : Nat} {σ : TT} (hc : σ f a = 98) (hx : σ f (a + 1) = nI x) (hy : σ f (a + 2) = nI y) (hw : σ f (a + 3) = nI w) (hh : σ f (a + 4) = nI h) (h9 : x ≤ 9 ∧ y ≤ 9 ∧ w ≤ 9 ∧ h ≤ 9) (hok : fitP σ x y w h) : stp f a σ = (true, tBl σ x y w h) := by
  unfold stp
  rw [dgt_n hx (by omega), dgt_n hy (by omega), dgt_n hw (by omega), dgt_n hh (by omega), if_pos (Or.inr hc), if_pos hok, if_pos hc]
theorem stp_c {f a x y w h : Nat} {σ : TT} (hc : σ f a = 99) (hx : σ f (a + 1) = nI x) (hy : σ f (a + 2) = nI y) (hw : σ f (a + 3) = nI w) (hh : σ f (a + 4) = nI h) (h9 : x ≤ 9 ∧ y ≤ 9 ∧ w ≤ 9 ∧ h ≤ 9) (hok : fitP σ x y w h) : stp f a σ = (true, tCt σ x y w h) := by
  unfold stp
  rw [dgt_n hx (by omega), dgt_n hy (by omega), dgt_n hw (by omega), dgt_n hh (by omega), if_pos (Or.inl hc), if_pos hok, if_neg (by rw [hc]; decide)]
theorem stp_n {f a x y w h : Nat} {σ : TT} (hc : σ f a = 99 ∨ σ f a = 98) (hx : σ f (a + 1) = nI x) (hy : σ f (a + 2) = nI y) (hw : σ f (a + 3) = nI w) (hh : σ f (a + 4) = nI h) (h9 : x ≤ 9 ∧ y ≤ 9 ∧ w ≤ 9 ∧ h ≤ 9) (hok : ¬ fitP σ x y w h) : stp f a σ = (false, σ) := by
  unfold stp
  rw [dgt_n hx (by omega), dgt_n hy (by omega), dgt_n hw (by omega), dgt_n hh (by omega), if_pos hc, if_neg hok]
theorem stp_t {f a : Nat} {σ : TT} (hc : σ f a = 116) : stp f a σ = (true, tTr σ (hWd σ) (hHg σ)) := by
  unfold stp
  rw [if_neg (by rw [hc]; decide), if_pos hc]
theorem stp_i {f a : Nat} {σ : TT} {c b : Int32} (hc : σ f a = c) (h1 : ¬ (c = 99 ∨ c = 98)) (h2 : ¬ c = 116) (hb : σ f (a + 1) = b) : stp f a σ = (true, tTn σ c b) := by
  unfold stp
  rw [hc, hb, if_neg h1, if_neg h2]
theorem tBl_ne {τ : TT} {x y w h i : Nat} (hi : i ≠ 11) : tBl τ x y w h i = τ i := blT_ne hi
theorem tCt_ne {τ : TT} {x y w h i : Nat} (hi : i ≠ 9 ∧ i ≠ 10 ∧ i ≠ 11) : tCt τ x y w h i = τ i := by
  unfold tCt
  rw [tu_ne hi.2.1, tu_ne hi.1, ctT_ne hi.2.2]
theorem tTr_ne {τ : TT} {W H i : Nat} (hi : i ≠ 9 ∧ i ≠ 10 ∧ i ≠ 11 ∧ i ≠ 12) : tTr τ W H i = τ i := by
  unfold tTr
  rw [tu_ne hi.2.1, tu_ne hi.1, trT_ne hi.2.2.1 hi.2.2.2]
theorem stp_ne {f a : Nat} {σ : TT} {i : Nat} (hi : i ≠ 9 ∧ i ≠ 10 ∧ i ≠ 11 ∧ i ≠ 12) : (stp f a σ).2 i = σ i := by
  unfold stp
  split
  · split
    · show (ite _ _ _ : TT) i = _
      split
      · exact tBl_ne hi.2.2.1
      · exact tCt_ne ⟨hi.1, hi.2.1, hi.2.2.1⟩
    · rfl
  · split
    · exact tTr_ne hi
    · exact ov_ne hi.2.2.1
theorem dAs_ne {f fr : Nat} {τ : TT} {n i : Nat} (hi : i ≠ 9 ∧ i ≠ 10 ∧ i ≠ 11 ∧ i ≠ 12) : (dAs f fr τ n).2 i = τ i := by
  induction n with
  | zero => rfl
  | succ n ih =>
    show (ite _ _ _ : Bool × TT).2 i = _
    split
    · rw [stp_ne hi, ih]
    · exact ih
theorem WHd.of {σ : TT} {w h : Nat} (h1 : σ 9 0 = nI w) (h2 : σ 10 0 = nI h) (h3 : 1 ≤ w ∧ w ≤ 4) (h4 : 1 ≤ h ∧ h ≤ 4) : WHd σ ∧ hWd σ = w ∧ hHg σ = h := by
  have e1 : hWd σ = w := by unfold hWd; rw [h1, nI_clamp (by omega)]
  have e2 : hHg σ = h := by unfold hHg; rw [h2, nI_clamp (by omega)]
  exact ⟨⟨⟨by rw [e1]; exact h1, by omega⟩, ⟨by rw [e2]; exact h2, by omega⟩⟩, e1, e2⟩
theorem stp_WH {f a : Nat} {σ : TT} (h : WHd σ) : WHd (stp f a σ).2 := by
  unfold stp
  split
  · split
    · rename_i h1 h2
      show WHd (ite _ _ _ : TT)
      split
      · unfold WHd hWd hHg at *
        rw [tBl_ne (by decide), tBl_ne (by decide)]
        exact h
      · exact (WHd.of (w := dgt (σ f) (a + 3)) (h := dgt (σ f) (a + 4)) (by show tu _ _ _ _ 9 0 = _; rw [tu_ne (by decide), tu_at]) (by show tu _ _ _ _ 10 0 = _; rw [tu_at]) ⟨h2.1, by have := h.1.2.2; have := h2.2.2.1; omega⟩ ⟨h2.2.1, by have := h.2.2.2; have := h2.2.2.2; omega⟩).1
    · exact h
  · split
    · show WHd (tTr σ (hWd σ) (hHg σ))
      exact (WHd.of (w := hHg σ) (h := hWd σ) (by unfold tTr; rw [tu_ne (by decide), tu_at]) (by unfold tTr; rw [tu_at]) h.2.2 h.1.2).1
    · show WHd (tTn σ (σ f a) (σ f (a + 1)))
      have e1 : tTn σ (σ f a) (σ f (a + 1)) 9 = σ 9 := ov_ne (by decide)
      have e2 : tTn σ (σ f a) (σ f (a + 1)) 10 = σ 10 := ov_ne (by decide)
      unfold WHd hWd hHg at *
      rw [e1, e2]
      exact h
theorem dAs_WH {f fr : Nat} {τ : TT} {n : Nat} (h : WHd τ) : WHd (dAs f fr τ n).2 := by
  induction n with
  | zero => exact h
  | succ n ih =>
    show WHd (ite _ _ _ : Bool × TT).2
    split
    · exact stp_WH ih
    · exact ih

def rmX12_doActs : Room := { frames := 2, cells := 0, slots := 0, locals := 43 }
set_option maxHeartbeats 4000000 in
set_option maxRecDepth 100000 in
theorem c_X12_doActs {τ : TT} {f fr n : Nat} (hf : f = 7 ∨ f = 22) (hn : n ≤ 5) (hfr : fr + 5 * n ≤ rLen f) (hwh0 : WHd τ) (hact : ∀ k, k < n → actOK (τ f) (fr + 5 * k)) : RD mX12_doActs rmX12_doActs [.ref (rAd f), .int (nI fr), .int (nI n)] τ (some (.int (bi ((dAs f fr τ n).1 = true)))) ((dAs f fr τ n).2) := by
  intro M0 hW0
  refine am_of rfl rfl (ls := [some (.ref 25), some (.ref (rAd f)), some (.int (nI fr)), some (.int (nI n)), none, none, none, none]) rfl ?_
  suffices HH : ∀ M, RO τ M0 M → AW mX12_doActs rmX12_doActs (fun r' M' => r' = (some (.int (bi ((dAs f fr τ n).1 = true)))) ∧ RO ((dAs f fr τ n).2) M0 M') 0 [some (.ref 25), some (.ref (rAd f)), some (.int (nI fr)), some (.int (nI n)), none, none, none, none] [] M 0 0 from HH M0 ⟨hW0, Off.rf M0⟩
  intro M hW
  have hl300 := rLen_le f
  have hf11 : f ≠ 11 := by omega
  have hlf : rLen f ≤ 300 := by rcases hf with rfl | rfl <;> decide
  refine aw_ic0 0 dX12_doActs_0 ?_
  refine aw_istore4 1 dX12_doActs_1 rfl ?_
  have LP3 : ∀ (dd : Nat) (k : Nat) (σ : TT) (M : Mem) (z5 z6 z7 : Option Value), n - k = dd → (k ≤ n) → (prevB z5 = true) → (dAs f fr τ k = (true, σ)) → (prevB z6 = true) → (RO σ M0 M) → AW mX12_doActs rmX12_doActs (fun r' M' => r' = (some (.int (bi ((dAs f fr τ n).1 = true)))) ∧ RO ((dAs f fr τ n).2) M0 M') 3 [some (.ref 25), some (.ref (rAd f)), some (.int (nI fr)), some (.int (nI n)), some (.int (nI k)), z5, z6, z7] [] M 0 0 := by
    intro dd
    induction dd using Nat.strongRecOn with
    | _ dd ih3 =>
      intro k σ M z5 z6 z7 hdd hk hp5 hσ hp6 hW
      have hA : σ f = τ f := by have := dAs_ne (f := f) (fr := fr) (τ := τ) (n := k) (i := f) (by omega); rw [hσ] at this; exact this
      have hwh : WHd σ := by have := dAs_WH (f := f) (fr := fr) (n := k) hwh0; rw [hσ] at this; exact this
      refine aw_iload4 3 dX12_doActs_3 ?_
      refine aw_iload3 5 dX12_doActs_5 ?_
      refine aw_icmp_geN 6 110 (k) (n) dX12_doActs_6 (by decide) rfl rfl (by omega) (by omega) (fun h6 => ?_) (fun h6 => ?_)
      · have he : k = n := by omega
        subst he
        refine aw_ic1 110 dX12_doActs_110 ?_
        refine aw_zret 111 dX12_doActs_111 rfl (by first | rfl | exact bi_nar | decide) (Nat.zero_le _) (Nat.zero_le _) ?_
        exact ⟨by rw [hσ]; rfl, by rw [hσ]; exact hW⟩
      · have hal : fr + 5 * k + 4 < rLen f := by omega
        refine aw_iload2 9 dX12_doActs_9 ?_
        refine aw_ic5 10 dX12_doActs_10 ?_
        refine aw_iload4 11 dX12_doActs_11 ?_
        refine aw_imulN 13 (5) (k) dX12_doActs_13 rfl rfl ?_
        refine aw_iaddN 14 (fr) (5 * k) dX12_doActs_14 rfl rfl ?_
        refine aw_istore5 15 dX12_doActs_15 rfl ?_
        rcases hact k (by omega) with ⟨x, y, w, h, hc, hx, hy, hw, hh, h9⟩ | hc | ⟨d, hc, hd, hd2⟩
        · rw [← hA] at hc hx hy hw hh
          rcases hc with hc | hc
          · by_cases hok : fitP σ x y w h
            · have hd1 : dAs f fr τ (k + 1) = (true, tCt σ x y w h) := (dAs_s hσ).trans (stp_c hc hx hy hw hh h9 hok)
              refine aw_aload1 17 dX12_doActs_17 ?_
              refine aw_iload5 18 dX12_doActs_18 ?_
              refine rw_ld 20 f (fr + (5 * k)) dX12_doActs_20 hW rfl (show fr + (5 * k) < rLen f by omega) ?_
              refine aw_topi (w := 99) (hc) ?_
              refine aw_istore6 21 dX12_doActs_21 rfl ?_
              refine aw_iload6 23 dX12_doActs_23 ?_
              refine aw_bipush 25 99 dX12_doActs_25 (by decide) ?_
              refine aw_icmp_eqN 27 37 (99) (99) dX12_doActs_27 (by decide) rfl rfl (by decide) (by decide) (fun _ => ?_) (fun h => absurd h (by decide))
              refine aw_aload0 37 dX12_doActs_37 ?_
              refine aw_aload1 38 dX12_doActs_38 ?_
              refine aw_iload5 39 dX12_doActs_39 ?_
              refine rw_call1 41 dX12_doActs_41 (c_X12_doPart hf hal hx hy hw hh h9 ⟨hwh.1.1, hwh.1.2.2⟩ ⟨hwh.2.1, hwh.2.2.2⟩ hok hc) ckV_RX12_190 cd_X12_doPart rfl hW rfl (Nat.le_of_ble_eq_true rfl) ⟨⟨by decide, by decide⟩, by decide, by decide⟩ rfl (fun M hW => ?_)
              refine aw_if_neN 44 104 (1) dX12_doActs_44 (by decide) rfl (by decide) (fun _ => ?_) (fun h => absurd h (by decide))
              refine aw_iinc4 104 (nI (k + 1)) dX12_doActs_104 (nI_1 _) rfl ?_
              refine aw_goto 107 3 dX12_doActs_107 (by decide) ?_
              exact ih3 _ (by omega) (k + 1) _ M _ _ _ rfl (by omega) rfl hd1 rfl hW
            · have hd1 : dAs f fr τ (k + 1) = (false, σ) := (dAs_s hσ).trans (stp_n (Or.inl hc) hx hy hw hh h9 hok)
              have hdn := dAs_f hd1 n (by omega)
              refine aw_aload1 17 dX12_doActs_17 ?_
              refine aw_iload5 18 dX12_doActs_18 ?_
              refine rw_ld 20 f (fr + (5 * k)) dX12_doActs_20 hW rfl (show fr + (5 * k) < rLen f by omega) ?_
              refine aw_topi (w := 99) (hc) ?_
              refine aw_istore6 21 dX12_doActs_21 rfl ?_
              refine aw_iload6 23 dX12_doActs_23 ?_
              refine aw_bipush 25 99 dX12_doActs_25 (by decide) ?_
              refine aw_icmp_eqN 27 37 (99) (99) dX12_doActs_27 (by decide) rfl rfl (by decide) (by decide) (fun _ => ?_) (fun h => absurd h (by decide))
              refine aw_aload0 37 dX12_doActs_37 ?_
              refine aw_aload1 38 dX12_doActs_38 ?_
              refine aw_iload5 39 dX12_doActs_39 ?_
              refine rw_call1 41 dX12_doActs_41 (n_X12_doPart hf hal hx hy hw hh h9 ⟨hwh.1.1, hwh.1.2.2⟩ ⟨hwh.2.1, hwh.2.2.2⟩ hok) ckV_RX12_190 cd_X12_doPart rfl hW rfl (Nat.le_of_ble_eq_true rfl) ⟨⟨by decide, by decide⟩, by decide, by decide⟩ rfl (fun M hW => ?_)
              refine aw_if_neN 44 104 (0) dX12_doActs_44 (by decide) rfl (by decide) (fun h => absurd h (by decide)) (fun _ => ?_)
              refine aw_ic0 47 dX12_doActs_47 ?_
              refine aw_zret 48 dX12_doActs_48 rfl (by first | rfl | exact bi_nar | decide) (Nat.zero_le _) (Nat.zero_le _) ?_
              exact ⟨by rw [hdn]; rfl, by rw [hdn]; exact hW⟩
          · by_cases hok : fitP σ x y w h
            · have hd1 : dAs f fr τ (k + 1) = (true, tBl σ x y w h) := (dAs_s hσ).trans (stp_b hc hx hy hw hh h9 hok)
              refine aw_aload1 17 dX12_doActs_17 ?_
              refine aw_iload5 18 dX12_doActs_18 ?_
              refine rw_ld 20 f (fr + (5 * k)) dX12_doActs_20 hW rfl (show fr + (5 * k) < rLen f by omega) ?_
              refine aw_topi (w := 98) (hc) ?_
              refine aw_istore6 21 dX12_doActs_21 rfl ?_
              refine aw_iload6 23 dX12_doActs_23 ?_
              refine aw_bipush 25 99 dX12_doActs_25 (by decide) ?_
              refine aw_icmp_eqN 27 37 (98) (99) dX12_doActs_27 (by decide) rfl rfl (by decide) (by decide) (fun h => absurd h (by decide)) (fun _ => ?_)
              refine aw_iload6 30 dX12_doActs_30 ?_
              refine aw_bipush 32 98 dX12_doActs_32 (by decide) ?_
              refine aw_icmp_neN 34 49 (98) (98) dX12_doActs_34 (by decide) rfl rfl (by decide) (by decide) (fun h => absurd h (by decide)) (fun _ => ?_)
              refine aw_aload0 37 dX12_doActs_37 ?_
              refine aw_aload1 38 dX12_doActs_38 ?_
              refine aw_iload5 39 dX12_doActs_39 ?_
              refine rw_call1 41 dX12_doActs_41 (b_X12_doPart hf hal hx hy hw hh h9 ⟨hwh.1.1, hwh.1.2.2⟩ ⟨hwh.2.1, hwh.2.2.2⟩ hok hc) ckV_RX12_190 cd_X12_doPart rfl hW rfl (Nat.le_of_ble_eq_true rfl) ⟨⟨by decide, by decide⟩, by decide, by decide⟩ rfl (fun M hW => ?_)
              refine aw_if_neN 44 104 (1) dX12_doActs_44 (by decide) rfl (by decide) (fun _ => ?_) (fun h => absurd h (by decide))
              refine aw_iinc4 104 (nI (k + 1)) dX12_doActs_104 (nI_1 _) rfl ?_
              refine aw_goto 107 3 dX12_doActs_107 (by decide) ?_
              exact ih3 _ (by omega) (k + 1) _ M _ _ _ rfl (by omega) rfl hd1 rfl hW
            · have hd1 : dAs f fr τ (k + 1) = (false, σ) := (dAs_s hσ).trans (stp_n (Or.inr hc) hx hy hw hh h9 hok)
              have hdn := dAs_f hd1 n (by omega)
              refine aw_aload1 17 dX12_doActs_17 ?_
              refine aw_iload5 18 dX12_doActs_18 ?_
              refine rw_ld 20 f (fr + (5 * k)) dX12_doActs_20 hW rfl (show fr + (5 * k) < rLen f by omega) ?_
              refine aw_topi (w := 98) (hc) ?_
              refine aw_istore6 21 dX12_doActs_21 rfl ?_
              refine aw_iload6 23 dX12_doActs_23 ?_
              refine aw_bipush 25 99 dX12_doActs_25 (by decide) ?_
              refine aw_icmp_eqN 27 37 (98) (99) dX12_doActs_27 (by decide) rfl rfl (by decide) (by decide) (fun h => absurd h (by decide)) (fun _ => ?_)
              refine aw_iload6 30 dX12_doActs_30 ?_
              refine aw_bipush 32 98 dX12_doActs_32 (by decide) ?_
              refine aw_icmp_neN 34 49 (98) (98) dX12_doActs_34 (by decide) rfl rfl (by decide) (by decide) (fun h => absurd h (by decide)) (fun _ => ?_)
              refine aw_aload0 37 dX12_doActs_37 ?_
              refine aw_aload1 38 dX12_doActs_38 ?_
              refine aw_iload5 39 dX12_doActs_39 ?_
              refine rw_call1 41 dX12_doActs_41 (n_X12_doPart hf hal hx hy hw hh h9 ⟨hwh.1.1, hwh.1.2.2⟩ ⟨hwh.2.1, hwh.2.2.2⟩ hok) ckV_RX12_190 cd_X12_doPart rfl hW rfl (Nat.le_of_ble_eq_true rfl) ⟨⟨by decide, by decide⟩, by decide, by decide⟩ rfl (fun M hW => ?_)
              refine aw_if_neN 44 104 (0) dX12_doActs_44 (by decide) rfl (by decide) (fun h => absurd h (by decide)) (fun _ => ?_)
              refine aw_ic0 47 dX12_doActs_47 ?_
              refine aw_zret 48 dX12_doActs_48 rfl (by first | rfl | exact bi_nar | decide) (Nat.zero_le _) (Nat.zero_le _) ?_
              exact ⟨by rw [hdn]; rfl, by rw [hdn]; exact hW⟩
        · rw [← hA] at hc
          have hd1 : dAs f fr τ (k + 1) = (true, tTr σ (hWd σ) (hHg σ)) := (dAs_s hσ).trans (stp_t hc)
          refine aw_aload1 17 dX12_doActs_17 ?_
          refine aw_iload5 18 dX12_doActs_18 ?_
          refine rw_ld 20 f (fr + (5 * k)) dX12_doActs_20 hW rfl (show fr + (5 * k) < rLen f by omega) ?_
          refine aw_topi (w := 116) (hc) ?_
          refine aw_istore6 21 dX12_doActs_21 rfl ?_
          refine aw_iload6 23 dX12_doActs_23 ?_
          refine aw_bipush 25 99 dX12_doActs_25 (by decide) ?_
          refine aw_icmp_eqN 27 37 (116) (99) dX12_doActs_27 (by decide) rfl rfl (by decide) (by decide) (fun h => absurd h (by decide)) (fun _ => ?_)
          refine aw_iload6 30 dX12_doActs_30 ?_
          refine aw_bipush 32 98 dX12_doActs_32 (by decide) ?_
          refine aw_icmp_neN 34 49 (116) (98) dX12_doActs_34 (by decide) rfl rfl (by decide) (by decide) (fun _ => ?_) (fun h => absurd h (by decide))
          refine aw_iload6 49 dX12_doActs_49 ?_
          refine aw_bipush 51 116 dX12_doActs_51 (by decide) ?_
          refine aw_icmp_neN 53 63 (116) (116) dX12_doActs_53 (by decide) rfl rfl (by decide) (by decide) (fun h => absurd h (by decide)) (fun _ => ?_)
          refine aw_aload0 56 dX12_doActs_56 ?_
          refine rw_call0 57 dX12_doActs_57 (c_X12_turn hwh.1 hwh.2) ckV_RX12_194 cd_X12_turn rfl hW rfl (Nat.le_of_ble_eq_true rfl) ⟨⟨by decide, by decide⟩, by decide, by decide⟩ rfl (fun M hW => ?_)
          refine aw_goto 60 104 dX12_doActs_60 (by decide) ?_
          refine aw_iinc4 104 (nI (k + 1)) dX12_doActs_104 (nI_1 _) rfl ?_
          refine aw_goto 107 3 dX12_doActs_107 (by decide) ?_
          exact ih3 _ (by omega) (k + 1) _ M _ _ _ rfl (by omega) rfl hd1 rfl hW
        · rw [← hA] at hc hd
          have hdz : ¬ nI d = 0 := nI_ne0 (by omega) (by omega)
          rcases hc with hc | hc | hc
          · have hd1 : dAs f fr τ (k + 1) = (true, tTn σ 108 (nI d)) := (dAs_s hσ).trans (stp_i hc (by decide) (by decide) hd)
            refine aw_aload1 17 dX12_doActs_17 ?_
            refine aw_iload5 18 dX12_doActs_18 ?_
            refine rw_ld 20 f (fr + (5 * k)) dX12_doActs_20 hW rfl (show fr + (5 * k) < rLen f by omega) ?_
            refine aw_topi (w := 108) (hc) ?_
            refine aw_istore6 21 dX12_doActs_21 rfl ?_
            refine aw_iload6 23 dX12_doActs_23 ?_
            refine aw_bipush 25 99 dX12_doActs_25 (by decide) ?_
            refine aw_icmp_eqN 27 37 (108) (99) dX12_doActs_27 (by decide) rfl rfl (by decide) (by decide) (fun h => absurd h (by decide)) (fun _ => ?_)
            refine aw_iload6 30 dX12_doActs_30 ?_
            refine aw_bipush 32 98 dX12_doActs_32 (by decide) ?_
            refine aw_icmp_neN 34 49 (108) (98) dX12_doActs_34 (by decide) rfl rfl (by decide) (by decide) (fun _ => ?_) (fun h => absurd h (by decide))
            refine aw_iload6 49 dX12_doActs_49 ?_
            refine aw_bipush 51 116 dX12_doActs_51 (by decide) ?_
            refine aw_icmp_neN 53 63 (108) (116) dX12_doActs_53 (by decide) rfl rfl (by decide) (by decide) (fun _ => ?_) (fun h => absurd h (by decide))
            refine aw_ic0 63 dX12_doActs_63 ?_
            refine aw_istore7 64 dX12_doActs_64 rfl ?_
            have LP66 : ∀ (dd : Nat) (t : Nat) (M : Mem), 16 - t = dd → (t ≤ 16) → (RO (ov σ 11 0 t (fun b => tnt (σ 11 b) 108 (nI d))) M0 M) → AW mX12_doActs rmX12_doActs (fun r' M' => r' = (some (.int (bi ((dAs f fr τ n).1 = true)))) ∧ RO ((dAs f fr τ n).2) M0 M') 66 [some (.ref 25), some (.ref (rAd f)), some (.int (nI fr)), some (.int (nI n)), some (.int (nI k)), some (.int (nI (fr + 5 * k))), some (.int 108), some (.int (nI t))] [] M 0 0 := by
              intro dd
              induction dd using Nat.strongRecOn with
              | _ dd ih66 =>
                intro t M hdd ht hW
                refine aw_iload7 66 dX12_doActs_66 ?_
                refine aw_bipush 68 16 dX12_doActs_68 (by decide) ?_
                refine aw_icmp_geN 70 104 (t) (16) dX12_doActs_70 (by decide) rfl rfl (by omega) (by omega) (fun h70 => ?_) (fun h70 => ?_)
                · have he : t = 16 := by omega
                  subst he
                  refine aw_iinc4 104 (nI (k + 1)) dX12_doActs_104 (nI_1 _) rfl ?_
                  refine aw_goto 107 3 dX12_doActs_107 (by decide) ?_
                  exact ih3 _ (by omega) (k + 1) _ M _ _ _ rfl (by omega) rfl hd1 rfl hW
                · refine aw_aload0 73 dX12_doActs_73 ?_
                  refine rw_ga 74 11 dX12_doActs_74 ckF_RX12_25_12 (by decide) (by decide) hW ?_
                  refine aw_iload7 77 dX12_doActs_77 ?_
                  refine aw_aload0 79 dX12_doActs_79 ?_
                  refine rw_ga 80 11 dX12_doActs_80 ckF_RX12_25_12 (by decide) (by decide) hW ?_
                  refine aw_iload7 83 dX12_doActs_83 ?_
                  refine rw_ld 85 11 (t) dX12_doActs_85 hW rfl (show t < 16 by omega) ?_
                  refine aw_topi (show _ = σ 11 t from ov_out (by omega)) ?_
                  refine aw_iload6 86 dX12_doActs_86 ?_
                  refine aw_aload1 88 dX12_doActs_88 ?_
                  refine aw_iload5 89 dX12_doActs_89 ?_
                  refine aw_ic1 91 dX12_doActs_91 ?_
                  refine aw_iaddN 92 (fr + (5 * k)) (1) dX12_doActs_92 rfl rfl ?_
                  refine rw_ld 93 f ((fr + (5 * k)) + 1) dX12_doActs_93 hW rfl (show (fr + (5 * k)) + 1 < rLen f by omega) ?_
                  refine aw_topi (w := nI d) (by rw [ov_ne hf11]; exact hd) ?_
                  refine sd_call1 94 dX12_doActs_94 (c_X12_tinted hdz) ckS_RX12_197 cd_X12_tinted rfl (Nat.le_of_ble_eq_true rfl) ⟨⟨by decide, by decide⟩, by decide, by decide⟩ rfl ?_
                  refine rw_st 97 11 (t) dX12_doActs_97 hW rfl (show t < 16 by omega) (fun M hW => ?_)
                  replace hW := ro_eq hW (ov_up (f := fun b => tnt (σ 11 b) 108 (nI d)) (by omega) rfl)
                  refine aw_iinc7 98 (nI (t + 1)) dX12_doActs_98 (nI_1 _) rfl ?_
                  refine aw_goto 101 66 dX12_doActs_101 (by decide) ?_
                  exact ih66 _ (by omega) (t + 1) M rfl (by omega) hW
            exact LP66 _ 0 M rfl (by omega) (ro_eq hW ov_nil.symm)
          · have hd1 : dAs f fr τ (k + 1) = (true, tTn σ 109 (nI d)) := (dAs_s hσ).trans (stp_i hc (by decide) (by decide) hd)
            refine aw_aload1 17 dX12_doActs_17 ?_
            refine aw_iload5 18 dX12_doActs_18 ?_
            refine rw_ld 20 f (fr + (5 * k)) dX12_doActs_20 hW rfl (show fr + (5 * k) < rLen f by omega) ?_
            refine aw_topi (w := 109) (hc) ?_
            refine aw_istore6 21 dX12_doActs_21 rfl ?_
            refine aw_iload6 23 dX12_doActs_23 ?_
            refine aw_bipush 25 99 dX12_doActs_25 (by decide) ?_
            refine aw_icmp_eqN 27 37 (109) (99) dX12_doActs_27 (by decide) rfl rfl (by decide) (by decide) (fun h => absurd h (by decide)) (fun _ => ?_)
            refine aw_iload6 30 dX12_doActs_30 ?_
            refine aw_bipush 32 98 dX12_doActs_32 (by decide) ?_
            refine aw_icmp_neN 34 49 (109) (98) dX12_doActs_34 (by decide) rfl rfl (by decide) (by decide) (fun _ => ?_) (fun h => absurd h (by decide))
            refine aw_iload6 49 dX12_doActs_49 ?_
            refine aw_bipush 51 116 dX12_doActs_51 (by decide) ?_
            refine aw_icmp_neN 53 63 (109) (116) dX12_doActs_53 (by decide) rfl rfl (by decide) (by decide) (fun _ => ?_) (fun h => absurd h (by decide))
            refine aw_ic0 63 dX12_doActs_63 ?_
            refine aw_istore7 64 dX12_doActs_64 rfl ?_
            have LP66 : ∀ (dd : Nat) (t : Nat) (M : Mem), 16 - t = dd → (t ≤ 16) → (RO (ov σ 11 0 t (fun b => tnt (σ 11 b) 109 (nI d))) M0 M) → AW mX12_doActs rmX12_doActs (fun r' M' => r' = (some (.int (bi ((dAs f fr τ n).1 = true)))) ∧ RO ((dAs f fr τ n).2) M0 M') 66 [some (.ref 25), some (.ref (rAd f)), some (.int (nI fr)), some (.int (nI n)), some (.int (nI k)), some (.int (nI (fr + 5 * k))), some (.int 109), some (.int (nI t))] [] M 0 0 := by
              intro dd
              induction dd using Nat.strongRecOn with
              | _ dd ih66 =>
                intro t M hdd ht hW
                refine aw_iload7 66 dX12_doActs_66 ?_
                refine aw_bipush 68 16 dX12_doActs_68 (by decide) ?_
                refine aw_icmp_geN 70 104 (t) (16) dX12_doActs_70 (by decide) rfl rfl (by omega) (by omega) (fun h70 => ?_) (fun h70 => ?_)
                · have he : t = 16 := by omega
                  subst he
                  refine aw_iinc4 104 (nI (k + 1)) dX12_doActs_104 (nI_1 _) rfl ?_
                  refine aw_goto 107 3 dX12_doActs_107 (by decide) ?_
                  exact ih3 _ (by omega) (k + 1) _ M _ _ _ rfl (by omega) rfl hd1 rfl hW
                · refine aw_aload0 73 dX12_doActs_73 ?_
                  refine rw_ga 74 11 dX12_doActs_74 ckF_RX12_25_12 (by decide) (by decide) hW ?_
                  refine aw_iload7 77 dX12_doActs_77 ?_
                  refine aw_aload0 79 dX12_doActs_79 ?_
                  refine rw_ga 80 11 dX12_doActs_80 ckF_RX12_25_12 (by decide) (by decide) hW ?_
                  refine aw_iload7 83 dX12_doActs_83 ?_
                  refine rw_ld 85 11 (t) dX12_doActs_85 hW rfl (show t < 16 by omega) ?_
                  refine aw_topi (show _ = σ 11 t from ov_out (by omega)) ?_
                  refine aw_iload6 86 dX12_doActs_86 ?_
                  refine aw_aload1 88 dX12_doActs_88 ?_
                  refine aw_iload5 89 dX12_doActs_89 ?_
                  refine aw_ic1 91 dX12_doActs_91 ?_
                  refine aw_iaddN 92 (fr + (5 * k)) (1) dX12_doActs_92 rfl rfl ?_
                  refine rw_ld 93 f ((fr + (5 * k)) + 1) dX12_doActs_93 hW rfl (show (fr + (5 * k)) + 1 < rLen f by omega) ?_
                  refine aw_topi (w := nI d) (by rw [ov_ne hf11]; exact hd) ?_
                  refine sd_call1 94 dX12_doActs_94 (c_X12_tinted hdz) ckS_RX12_197 cd_X12_tinted rfl (Nat.le_of_ble_eq_true rfl) ⟨⟨by decide, by decide⟩, by decide, by decide⟩ rfl ?_
                  refine rw_st 97 11 (t) dX12_doActs_97 hW rfl (show t < 16 by omega) (fun M hW => ?_)
                  replace hW := ro_eq hW (ov_up (f := fun b => tnt (σ 11 b) 109 (nI d)) (by omega) rfl)
                  refine aw_iinc7 98 (nI (t + 1)) dX12_doActs_98 (nI_1 _) rfl ?_
                  refine aw_goto 101 66 dX12_doActs_101 (by decide) ?_
                  exact ih66 _ (by omega) (t + 1) M rfl (by omega) hW
            exact LP66 _ 0 M rfl (by omega) (ro_eq hW ov_nil.symm)
          · have hd1 : dAs f fr τ (k + 1) = (true, tTn σ 113 (nI d)) := (dAs_s hσ).trans (stp_i hc (by decide) (by decide) hd)
            refine aw_aload1 17 dX12_doActs_17 ?_
            refine aw_iload5 18 dX12_doActs_18 ?_
            refine rw_ld 20 f (fr + (5 * k)) dX12_doActs_20 hW rfl (show fr + (5 * k) < rLen f by omega) ?_
            refine aw_topi (w := 113) (hc) ?_
            refine aw_istore6 21 dX12_doActs_21 rfl ?_
            refine aw_iload6 23 dX12_doActs_23 ?_
            refine aw_bipush 25 99 dX12_doActs_25 (by decide) ?_
            refine aw_icmp_eqN 27 37 (113) (99) dX12_doActs_27 (by decide) rfl rfl (by decide) (by decide) (fun h => absurd h (by decide)) (fun _ => ?_)
            refine aw_iload6 30 dX12_doActs_30 ?_
            refine aw_bipush 32 98 dX12_doActs_32 (by decide) ?_
            refine aw_icmp_neN 34 49 (113) (98) dX12_doActs_34 (by decide) rfl rfl (by decide) (by decide) (fun _ => ?_) (fun h => absurd h (by decide))
            refine aw_iload6 49 dX12_doActs_49 ?_
            refine aw_bipush 51 116 dX12_doActs_51 (by decide) ?_
            refine aw_icmp_neN 53 63 (113) (116) dX12_doActs_53 (by decide) rfl rfl (by decide) (by decide) (fun _ => ?_) (fun h => absurd h (by decide))
            refine aw_ic0 63 dX12_doActs_63 ?_
            refine aw_istore7 64 dX12_doActs_64 rfl ?_
            have LP66 : ∀ (dd : Nat) (t : Nat) (M : Mem), 16 - t = dd → (t ≤ 16) → (RO (ov σ 11 0 t (fun b => tnt (σ 11 b) 113 (nI d))) M0 M) → AW mX12_doActs rmX12_doActs (fun r' M' => r' = (some (.int (bi ((dAs f fr τ n).1 = true)))) ∧ RO ((dAs f fr τ n).2) M0 M') 66 [some (.ref 25), some (.ref (rAd f)), some (.int (nI fr)), some (.int (nI n)), some (.int (nI k)), some (.int (nI (fr + 5 * k))), some (.int 113), some (.int (nI t))] [] M 0 0 := by
              intro dd
              induction dd using Nat.strongRecOn with
              | _ dd ih66 =>
                intro t M hdd ht hW
                refine aw_iload7 66 dX12_doActs_66 ?_
                refine aw_bipush 68 16 dX12_doActs_68 (by decide) ?_
                refine aw_icmp_geN 70 104 (t) (16) dX12_doActs_70 (by decide) rfl rfl (by omega) (by omega) (fun h70 => ?_) (fun h70 => ?_)
                · have he : t = 16 := by omega
                  subst he
                  refine aw_iinc4 104 (nI (k + 1)) dX12_doActs_104 (nI_1 _) rfl ?_
                  refine aw_goto 107 3 dX12_doActs_107 (by decide) ?_
                  exact ih3 _ (by omega) (k + 1) _ M _ _ _ rfl (by omega) rfl hd1 rfl hW
                · refine aw_aload0 73 dX12_doActs_73 ?_
                  refine rw_ga 74 11 dX12_doActs_74 ckF_RX12_25_12 (by decide) (by decide) hW ?_
                  refine aw_iload7 77 dX12_doActs_77 ?_
                  refine aw_aload0 79 dX12_doActs_79 ?_
                  refine rw_ga 80 11 dX12_doActs_80 ckF_RX12_25_12 (by decide) (by decide) hW ?_
                  refine aw_iload7 83 dX12_doActs_83 ?_
                  refine rw_ld 85 11 (t) dX12_doActs_85 hW rfl (show t < 16 by omega) ?_
                  refine aw_topi (show _ = σ 11 t from ov_out (by omega)) ?_
                  refine aw_iload6 86 dX12_doActs_86 ?_
                  refine aw_aload1 88 dX12_doActs_88 ?_
                  refine aw_iload5 89 dX12_doActs_89 ?_
                  refine aw_ic1 91 dX12_doActs_91 ?_
                  refine aw_iaddN 92 (fr + (5 * k)) (1) dX12_doActs_92 rfl rfl ?_
                  refine rw_ld 93 f ((fr + (5 * k)) + 1) dX12_doActs_93 hW rfl (show (fr + (5 * k)) + 1 < rLen f by omega) ?_
                  refine aw_topi (w := nI d) (by rw [ov_ne hf11]; exact hd) ?_
                  refine sd_call1 94 dX12_doActs_94 (c_X12_tinted hdz) ckS_RX12_197 cd_X12_tinted rfl (Nat.le_of_ble_eq_true rfl) ⟨⟨by decide, by decide⟩, by decide, by decide⟩ rfl ?_
                  refine rw_st 97 11 (t) dX12_doActs_97 hW rfl (show t < 16 by omega) (fun M hW => ?_)
                  replace hW := ro_eq hW (ov_up (f := fun b => tnt (σ 11 b) 113 (nI d)) (by omega) rfl)
                  refine aw_iinc7 98 (nI (t + 1)) dX12_doActs_98 (nI_1 _) rfl ?_
                  refine aw_goto 101 66 dX12_doActs_101 (by decide) ?_
                  exact ih66 _ (by omega) (t + 1) M rfl (by omega) hW
            exact LP66 _ 0 M rfl (by omega) (ro_eq hW ov_nil.symm)
  exact LP3 _ 0 τ M _ _ _ rfl (Nat.zero_le _) rfl rfl rfl hW

