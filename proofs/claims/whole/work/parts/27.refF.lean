/-! acts on a list, and the reference's act and change (rows laid by gen/refF.py) -/
/-- an act as read -/
def okA (q : Int32 × Nat) : Prop := ((q.1 = 99 ∨ q.1 = 98) ∧ q.2 ≤ 9999) ∨ (q.1 = 116 ∧ q.2 = 0) ∨ ((q.1 = 108 ∨ q.1 = 109 ∨ q.1 = 113) ∧ 1 ≤ q.2 ∧ q.2 ≤ 99)
def stL (q : Int32 × Nat) (u : HS) : Option HS :=
  if q.1 = 99 ∨ q.1 = 98 then
    if fitH u (q.2 / 1000) (q.2 / 100 % 10) (q.2 / 10 % 10) (q.2 % 10) then
      some (if q.1 = 98 then (blG u.1 (q.2 / 1000) (q.2 / 100 % 10) (q.2 / 10 % 10) (smG u.1 (q.2 / 1000) (q.2 / 100 % 10) (q.2 / 10 % 10) (q.2 / 10 % 10 * (q.2 % 10)) / nI (q.2 / 10 % 10 * (q.2 % 10))) (q.2 / 10 % 10 * (q.2 % 10)), u.2.1, u.2.2)
        else (ctG u.1 (q.2 / 1000) (q.2 / 100 % 10) (q.2 / 10 % 10) (q.2 / 10 % 10 * (q.2 % 10)), q.2 / 10 % 10, q.2 % 10))
    else none
  else if q.1 = 116 then some (trG u.1 u.2.2 u.2.2 (u.2.2 * u.2.1), u.2.2, u.2.1) else some (fun b => tnt (u.1 b) q.1 (nI q.2), u.2.1, u.2.2)
def dL (u : HS) : List (Int32 × Nat) → Option HS
  | [] => some u
  | q :: l => (stL q u).elim none (fun u' => dL u' l)
theorem actR_OK {A : Nat → Int32} {a : Nat} {q : Int32 × Nat} (h : actR A a q) (hq : okA q) : actOK A a := by
  obtain ⟨h1, h2, h3⟩ := h
  rcases hq with ⟨h4, h5⟩ | h4 | ⟨h4, h5⟩
  · obtain ⟨ha, hb, hc, hd⟩ := h2 h4
    exact Or.inl ⟨_, _, _, _, by rw [h1]; exact h4, ha, hb, hc, hd, by omega, by omega, by omega, by omega⟩
  · exact Or.inr (Or.inl (by rw [h1]; exact h4.1))
  · exact Or.inr (Or.inr ⟨q.2, by rw [h1]; exact h4, h3 (by rcases h4 with e | e | e <;> rw [e] <;> decide), h5⟩)
theorem stH_L {A : Nat → Int32} {a : Nat} {q : Int32 × Nat} (h : actR A a q) (hq : okA q) (u : HS) : stH A a u = stL q u := by
  obtain ⟨h1, h2, h3⟩ := h
  unfold stH stL
  rw [h1]
  by_cases h4 : q.1 = 99 ∨ q.1 = 98
  · have h5 : q.2 ≤ 9999 := by
      rcases hq with h5 | h5 | h5
      · exact h5.2
      · rw [h5.1] at h4; exact absurd h4 (by decide)
      · rcases h5.1 with e | e | e <;> (rw [e] at h4; exact absurd h4 (by decide))
    obtain ⟨ha, hb, hc, hd⟩ := h2 h4
    rw [if_pos h4, if_pos h4, dgt_n ha (by omega), dgt_n hb (by omega), dgt_n hc (by omega), dgt_n hd (by omega)]
  · rw [if_neg h4, if_neg h4, h3 h4]
theorem dL_app (u : HS) (l : List (Int32 × Nat)) (q : Int32 × Nat) : dL u (l ++ [q]) = (dL u l).bind (stL q) := by
  induction l generalizing u with
  | nil => show (stL q u).elim none some = stL q u; cases stL q u <;> rfl
  | cons a l ih =>
    show (stL a u).elim none (fun u' => dL u' (l ++ [q])) = ((stL a u).elim none (fun u' => dL u' l)).bind (stL q)
    cases stL a u with
    | none => rfl
    | some u' => exact ih u'
theorem dH_L {A : Nat → Int32} {fr : Nat} {l : List (Int32 × Nat)} (h : ∀ j, j < l.length → ∃ a, l[j]? = some a ∧ actR A (fr + 5 * j) a) (hq : ∀ q, q ∈ l → okA q) (u : HS) : dH A fr u l.length = dL u l := by
  suffices H : ∀ n, n ≤ l.length → dH A fr u n = dL u (l.take n) by
    have := H l.length (Nat.le_refl _)
    rwa [List.take_length] at this
  intro n
  induction n with
  | zero => intro _; rfl
  | succ n ih =>
    intro hn
    obtain ⟨a, ha, hb⟩ := h n hn
    have hmem : a ∈ l := List.mem_of_getElem? ha
    have e : l.take (n + 1) = l.take n ++ [a] := by rw [List.take_succ, ha]; rfl
    rw [e, dL_app, ← ih (by omega)]
    show (dH A fr u n).bind _ = _
    congr 1
    funext u'
    exact stH_L hb (hq a hmem) u'
theorem rdN_ok {t : Nat → Int32} {n i : Nat} {c : Int32} (hc : isKd c) (h : (rdN t n c i).1 = true) : okA (c, (rdN t n c i).2.2) := by
  unfold rdN at *
  by_cases h1 : c = 99 ∨ c = 98
  · rw [if_pos h1] at h ⊢
    refine Or.inl ⟨h1, ?_⟩
    by_cases g0 : isD t n i
    · rw [if_neg (nn g0)] at h ⊢
      by_cases g1 : isD t n (i + 1)
      · rw [if_neg (nn g1)] at h ⊢
        by_cases g2 : isD t n (i + 2)
        · rw [if_neg (nn g2)] at h ⊢
          by_cases g3 : isD t n (i + 3)
          · rw [if_neg (nn g3)]
            have v0 := (isD_v g0).1
            have v1 := (isD_v g1).1
            have v2 := (isD_v g2).1
            have v3 := (isD_v g3).1
            show 1000 * dv t i + 100 * dv t (i + 1) + 10 * dv t (i + 2) + dv t (i + 3) ≤ 9999
            omega
          · rw [if_pos g3] at h; cases h
        · rw [if_pos g2] at h; cases h
      · rw [if_pos g1] at h; cases h
    · rw [if_pos g0] at h; cases h
  · rw [if_neg h1] at h ⊢
    by_cases h2 : c = 116
    · rw [if_pos h2]; exact Or.inr (Or.inl ⟨h2, rfl⟩)
    · rw [if_neg h2] at h ⊢
      refine Or.inr (Or.inr ⟨?_, ?_⟩)
      · rcases hc with e | e | e | e | e | e
        · exact absurd (Or.inl e) h1
        · exact absurd (Or.inr e) h1
        · exact absurd e h2
        · exact Or.inl e
        · exact Or.inr (Or.inl e)
        · exact Or.inr (Or.inr e)
      · by_cases h3 : c = 113
        · rw [if_pos h3] at h ⊢
          by_cases g : isD t n i ∧ 2 ≤ dv t i
          · rw [if_pos g]
            have v0 := (isD_v g.1).1
            have := g.2
            show 1 ≤ dv t i ∧ dv t i ≤ 99
            omega
          · rw [if_neg g] at h; cases h
        · rw [if_neg h3] at h ⊢
          by_cases g0 : isD t n i
          · have v0 := (isD_v g0).1
            rw [if_neg (nn g0)] at h ⊢
            by_cases g1 : isD t n (i + 1)
            · have v1 := (isD_v g1).1
              rw [if_neg (nn g1)] at h ⊢
              by_cases g2 : 10 * dv t i + dv t (i + 1) = 0
              · rw [if_pos g2] at h; cases h
              · rw [if_neg g2]
                show 1 ≤ 10 * dv t i + dv t (i + 1) ∧ 10 * dv t i + dv t (i + 1) ≤ 99
                omega
            · rw [if_pos g1] at h ⊢
              by_cases g2 : dv t i = 0
              · rw [if_pos g2] at h; cases h
              · rw [if_neg g2]
                show 1 ≤ dv t i ∧ dv t i ≤ 99
                omega
          · rw [if_pos g0] at h; cases h
theorem rdA_ok {t : Nat → Int32} {n : Nat} : ∀ (f i : Nat) (acc l : List (Int32 × Nat)), rdA t n f i acc = .inr l → (∀ q, q ∈ acc → okA q) → ∀ q, q ∈ l → okA q := by
  intro f
  induction f with
  | zero => intro i acc l h; cases h
  | succ f ih =>
    intro i acc l h hacc
    rw [rdA_s] at h
    by_cases h1 : isKd (cdA t n i)
    · rw [if_neg (nn h1)] at h
      cases hb : (rdN t n (cdA t n i) (i + 1)).1 with
      | false => rw [if_pos hb] at h; cases h
      | true =>
        rw [if_neg (by rw [hb]; decide)] at h
        have hok := rdN_ok h1 hb
        have hacc2 : ∀ q, q ∈ acc ++ [(cdA t n i, (rdN t n (cdA t n i) (i + 1)).2.2)] → okA q := by
          intro q hq
          rcases List.mem_append.mp hq with h5 | h5
          · exact hacc q h5
          · rw [List.mem_singleton.mp h5]; exact hok
        by_cases h2 : n ≤ (rdN t n (cdA t n i) (i + 1)).2.1
        · rw [if_pos h2] at h
          rw [← Sum.inr.inj h]
          exact hacc2
        · rw [if_neg h2] at h
          by_cases h3 : ¬ t (rdN t n (cdA t n i) (i + 1)).2.1 = 59 ∨ f = 0
          · rw [if_pos h3] at h; cases h
          · rw [if_neg h3] at h
            exact ih _ _ l h hacc2
    · rw [if_pos h1] at h; cases h
theorem rdA_pos {t : Nat → Int32} {n : Nat} : ∀ (f i : Nat) (acc : List (Int32 × Nat)) (p : Nat), i ≤ n → rdA t n f i acc = .inl p → p ≤ n + 1 := by
  intro f
  induction f with
  | zero => intro i acc p hi h; have := Sum.inl.inj h; omega
  | succ f ih =>
    intro i acc p hi h
    have hr := rdN_le (t := t) (n := n) (c := cdA t n i) (i := i + 1) (by omega)
    rw [rdA_s] at h
    by_cases h1 : isKd (cdA t n i)
    · rw [if_neg (nn h1)] at h
      cases hb : (rdN t n (cdA t n i) (i + 1)).1 with
      | false => rw [if_pos hb] at h; have := Sum.inl.inj h; omega
      | true =>
        rw [if_neg (by rw [hb]; decide)] at h
        by_cases h2 : n ≤ (rdN t n (cdA t n i) (i + 1)).2.1
        · rw [if_pos h2] at h; cases h
        · rw [if_neg h2] at h
          by_cases h3 : ¬ t (rdN t n (cdA t n i) (i + 1)).2.1 = 59 ∨ f = 0
          · rw [if_pos h3] at h; have := Sum.inl.inj h; omega
          · rw [if_neg h3] at h
            exact ih _ _ p (by omega) h
    · rw [if_pos h1] at h; have := Sum.inl.inj h; omega
theorem obs_tu2 {σ τ : TT} {i k : Nat} {v : Int32} (h : Obs σ τ) : Obs (tu σ i k v) (tu τ i k v) := fun j hj => by
  funext b
  show (if j = i ∧ b = k then v else σ j b) = if j = i ∧ b = k then v else τ j b
  rw [h j hj]
theorem obs_ov2 {σ τ : TT} {i lo hi : Nat} {f g : Nat → Int32} (h : Obs σ τ) (hf : ∀ b, lo ≤ b → b < hi → f b = g b) : Obs (ov σ i lo hi f) (ov τ i lo hi g) := fun j hj => by
  rw [ov_congr hf]
  funext b
  show (if j = i ∧ lo ≤ b ∧ b < hi then g b else σ j b) = if j = i ∧ lo ≤ b ∧ b < hi then g b else τ j b
  rw [h j hj]
theorem ro_obs {σ : TT} {M0 M : Mem} (h : RO σ M0 M) {ρ : TT} (he : σ = ρ) : RO ρ M0 M := he ▸ h
/-- a picture made of a hand -/
def tAc (τ : TT) (u : HS) : TT := tu (tu (ov (tu (tu τ 2 (nP τ) (nI u.2.1)) 3 (nP τ) (nI u.2.2)) 4 (16 * nP τ) (16 * nP τ + 16) (fun b => u.1 (b - 16 * nP τ))) 1 0 (nI (nP τ + 1))) 0 0 0

def rmX12_act : Room := { frames := 4, cells := 0, slots := 0, locals := 99 }
set_option maxHeartbeats 4000000 in
set_option maxRecDepth 100000 in
theorem n_X12_act {τ : TT} {v u l i n : Int32} (hw : WP τ) (hno : ¬ ir v (nP τ) ∨ ¬ irg u 0 3) : RD mX12_act rmX12_act [.int v, .int u, .int l, .int i, .int n] τ (some (.int (-1))) (tu τ 0 0 0) := by
  intro M0 hW0
  refine am_of rfl rfl (ls := [some (.ref 25), some (.int v), some (.int u), some (.int l), some (.int i), some (.int n), none, none, none]) rfl ?_
  suffices HH : ∀ M, RO τ M0 M → AW mX12_act rmX12_act (fun r' M' => r' = (some (.int (-1))) ∧ RO (tu τ 0 0 0) M0 M') 0 [some (.ref 25), some (.int v), some (.int u), some (.int l), some (.int i), some (.int n), none, none, none] [] M 0 0 from HH M0 ⟨hW0, Off.rf M0⟩
  intro M hW
  refine aw_aload0 0 dX12_act_0 ?_
  refine aw_iload1 1 dX12_act_1 ?_
  refine rw_call1 2 dX12_act_2 (c_X12_noPicture hw) ckV_RX12_146 cd_X12_noPicture rfl hW rfl (Nat.le_of_ble_eq_true rfl) ⟨⟨by decide, by decide⟩, by decide, by decide⟩ rfl (fun M hW => ?_)
  refine aw_ifne_b 5 15 dX12_act_5 (by decide) (fun h5 => ?_) (fun h5 => ?_)
  · refine aw_aload0 15 dX12_act_15 ?_
    refine aw_icm1 16 dX12_act_16 ?_
    refine rw_call1 17 dX12_act_17 c_X12_refused ckV_RX12_114 cd_X12_refused rfl hW rfl (Nat.le_of_ble_eq_true rfl) ⟨⟨by decide, by decide⟩, by decide, by decide⟩ rfl (fun M hW => ?_)
    refine aw_iret 20 dX12_act_20 rfl (Nat.zero_le _) (Nat.zero_le _) ?_
    exact ⟨rfl, hW⟩
  · refine aw_iload2 8 dX12_act_8 ?_
    refine sd_call1 9 dX12_act_9 (c_X12_noSheet) ckS_RX12_110 cd_X12_noSheet rfl (Nat.le_of_ble_eq_true rfl) ⟨⟨by decide, by decide⟩, by decide, by decide⟩ rfl ?_
    refine aw_ifeq_b 12 21 dX12_act_12 (by decide) (fun h12 => ?_) (fun h12 => ?_)
    · exact absurd hno (fun q => q.elim h5 (fun z => h12 z))
    · refine aw_aload0 15 dX12_act_15 ?_
      refine aw_icm1 16 dX12_act_16 ?_
      refine rw_call1 17 dX12_act_17 c_X12_refused ckV_RX12_114 cd_X12_refused rfl hW rfl (Nat.le_of_ble_eq_true rfl) ⟨⟨by decide, by decide⟩, by decide, by decide⟩ rfl (fun M hW => ?_)
      refine aw_iret 20 dX12_act_20 rfl (Nat.zero_le _) (Nat.zero_le _) ?_
      exact ⟨rfl, hW⟩

set_option maxHeartbeats 4000000 in
set_option maxRecDepth 100000 in
theorem n2_X12_act {τ : TT} {p k : Nat} {l i n : Int32} (hw : WP τ) (hp : p < nP τ) (hk : k < 4) (hl : ¬ irg l 0 2) : RD mX12_act rmX12_act [.int (nI p), .int (nI k), .int l, .int i, .int n] τ (some (.int (-2))) (tu τ 0 0 0) := by
  intro M0 hW0
  refine am_of rfl rfl (ls := [some (.ref 25), some (.int (nI p)), some (.int (nI k)), some (.int l), some (.int i), some (.int n), none, none, none]) rfl ?_
  suffices HH : ∀ M, RO τ M0 M → AW mX12_act rmX12_act (fun r' M' => r' = (some (.int (-2))) ∧ RO (tu τ 0 0 0) M0 M') 0 [some (.ref 25), some (.int (nI p)), some (.int (nI k)), some (.int l), some (.int i), some (.int n), none, none, none] [] M 0 0 from HH M0 ⟨hW0, Off.rf M0⟩
  intro M hW
  have hn12 := hw.1.1
  have hwd := (hw.2 p hp).1
  have hhg := (hw.2 p hp).2
  have hip := ir_nI (n := nP τ) (by omega) hp
  have hik : irg (nI k) 0 3 := irg_nI (b := 3) (by decide) (by omega)
  refine aw_aload0 0 dX12_act_0 ?_
  refine aw_iload1 1 dX12_act_1 ?_
  refine rw_call1 2 dX12_act_2 (c_X12_noPicture hw) ckV_RX12_146 cd_X12_noPicture rfl hW rfl (Nat.le_of_ble_eq_true rfl) ⟨⟨by decide, by decide⟩, by decide, by decide⟩ rfl (fun M hW => ?_)
  refine aw_ifne_b 5 15 dX12_act_5 (by decide) (fun h5 => ?_) (fun h5 => ?_)
  · first | exact absurd hip h5 | exact absurd hik h12
  · refine aw_iload2 8 dX12_act_8 ?_
    refine sd_call1 9 dX12_act_9 (c_X12_noSheet) ckS_RX12_110 cd_X12_noSheet rfl (Nat.le_of_ble_eq_true rfl) ⟨⟨by decide, by decide⟩, by decide, by decide⟩ rfl ?_
    refine aw_ifeq_b 12 21 dX12_act_12 (by decide) (fun h12 => ?_) (fun h12 => ?_)
    · refine aw_iload3 21 dX12_act_21 ?_
      refine sd_call1 22 dX12_act_22 (c_X12_isLane) ckS_RX12_119 cd_X12_isLane rfl (Nat.le_of_ble_eq_true rfl) ⟨⟨by decide, by decide⟩, by decide, by decide⟩ rfl ?_
      refine aw_ifne_b 25 35 dX12_act_25 (by decide) (fun h25 => ?_) (fun h25 => ?_)
      · exact absurd h25 hl
      · refine aw_aload0 28 dX12_act_28 ?_
        refine aw_bipush 29 (-2) dX12_act_29 (by decide) ?_
        refine rw_call1 31 dX12_act_31 c_X12_refused ckV_RX12_114 cd_X12_refused rfl hW rfl (Nat.le_of_ble_eq_true rfl) ⟨⟨by decide, by decide⟩, by decide, by decide⟩ rfl (fun M hW => ?_)
        refine aw_iret 34 dX12_act_34 rfl (Nat.zero_le _) (Nat.zero_le _) ?_
        exact ⟨rfl, hW⟩
    · first | exact absurd hip h5 | exact absurd hik h12

set_option maxHeartbeats 4000000 in
set_option maxRecDepth 100000 in
theorem n3_X12_act {τ : TT} {p k : Nat} {l i n : Int32} (hw : WP τ) (hp : p < nP τ) (hk : k < 4) (hl : irg l 0 2) (hb : ¬ bar τ k l i n.toInt64 = 0) : RD mX12_act rmX12_act [.int (nI p), .int (nI k), .int l, .int i, .int n] τ (some (.int (-10 - bar τ k l i n.toInt64))) (tu τ 0 0 (bar τ k l i n.toInt64)) := by
  intro M0 hW0
  refine am_of rfl rfl (ls := [some (.ref 25), some (.int (nI p)), some (.int (nI k)), some (.int l), some (.int i), some (.int n), none, none, none]) rfl ?_
  suffices HH : ∀ M, RO τ M0 M → AW mX12_act rmX12_act (fun r' M' => r' = (some (.int (-10 - bar τ k l i n.toInt64))) ∧ RO (tu τ 0 0 (bar τ k l i n.toInt64)) M0 M') 0 [some (.ref 25), some (.int (nI p)), some (.int (nI k)), some (.int l), some (.int i), some (.int n), none, none, none] [] M 0 0 from HH M0 ⟨hW0, Off.rf M0⟩
  intro M hW
  have hn12 := hw.1.1
  have hwd := (hw.2 p hp).1
  have hhg := (hw.2 p hp).2
  have hip := ir_nI (n := nP τ) (by omega) hp
  have hik : irg (nI k) 0 3 := irg_nI (b := 3) (by decide) (by omega)
  refine aw_aload0 0 dX12_act_0 ?_
  refine aw_iload1 1 dX12_act_1 ?_
  refine rw_call1 2 dX12_act_2 (c_X12_noPicture hw) ckV_RX12_146 cd_X12_noPicture rfl hW rfl (Nat.le_of_ble_eq_true rfl) ⟨⟨by decide, by decide⟩, by decide, by decide⟩ rfl (fun M hW => ?_)
  refine aw_ifne_b 5 15 dX12_act_5 (by decide) (fun h5 => ?_) (fun h5 => ?_)
  · first | exact absurd hip h5 | exact absurd hik h12
  · refine aw_iload2 8 dX12_act_8 ?_
    refine sd_call1 9 dX12_act_9 (c_X12_noSheet) ckS_RX12_110 cd_X12_noSheet rfl (Nat.le_of_ble_eq_true rfl) ⟨⟨by decide, by decide⟩, by decide, by decide⟩ rfl ?_
    refine aw_ifeq_b 12 21 dX12_act_12 (by decide) (fun h12 => ?_) (fun h12 => ?_)
    · refine aw_iload3 21 dX12_act_21 ?_
      refine sd_call1 22 dX12_act_22 (c_X12_isLane) ckS_RX12_119 cd_X12_isLane rfl (Nat.le_of_ble_eq_true rfl) ⟨⟨by decide, by decide⟩, by decide, by decide⟩ rfl ?_
      refine aw_ifne_b 25 35 dX12_act_25 (by decide) (fun h25 => ?_) (fun h25 => ?_)
      · refine aw_aload0 35 dX12_act_35 ?_
        refine aw_iload2 36 dX12_act_36 ?_
        refine aw_iload3 37 dX12_act_37 ?_
        refine aw_iload4 38 dX12_act_38 ?_
        refine aw_iload5 40 dX12_act_40 ?_
        refine aw_i2l 42 dX12_act_42 ?_
        refine rw_call1 43 dX12_act_43 (c_barN hk hb) ckV_RX12_122 cd_X12_barred rfl hW rfl (Nat.le_of_ble_eq_true rfl) ⟨⟨by decide, by decide⟩, by decide, by decide⟩ rfl (fun M hW => ?_)
        refine aw_istore6 46 dX12_act_46 rfl ?_
        refine aw_iload6 48 dX12_act_48 ?_
        refine aw_if_ge 50 56 dX12_act_50 (by decide) (fun h50 => ?_) (fun h50 => ?_)
        · exact absurd h50 (bar_neg hb)
        · refine aw_iload6 53 dX12_act_53 ?_
          refine aw_iret 55 dX12_act_55 rfl (Nat.zero_le _) (Nat.zero_le _) ?_
          exact ⟨rfl, hW⟩
      · exact absurd hl h25
    · first | exact absurd hip h5 | exact absurd hik h12

set_option maxHeartbeats 4000000 in
set_option maxRecDepth 100000 in
theorem n4_X12_act {τ : TT} {p k i n f : Nat} {l : Int32} (hw : WP τ) (hp : p < nP τ) (hk : k < 4) (hl : irg l 0 2) (hs : WS τ) (h0 : ¬ τ 28 k < 0) (hll : τ 29 k = l) (hi : i + n ≤ ssz τ k) (hq : rdA (fun j => τ 30 (60 * k + i + j)) n 5 0 [] = .inl f) : RE mX12_act rmX12_act [.int (nI p), .int (nI k), .int l, .int (nI i), .int (nI n)] τ (some (.int (-100 - nI f))) (tu τ 0 0 0) := by
  intro M0 hW0
  refine am_of rfl rfl (ls := [some (.ref 25), some (.int (nI p)), some (.int (nI k)), some (.int l), some (.int (nI i)), some (.int (nI n)), none, none, none]) rfl ?_
  suffices HH : ∀ M, RO τ M0 M → AW mX12_act rmX12_act (fun r' M' => r' = (some (.int (-100 - nI f))) ∧ ∃ σ, RO σ M0 M' ∧ Obs σ (tu τ 0 0 0)) 0 [some (.ref 25), some (.int (nI p)), some (.int (nI k)), some (.int l), some (.int (nI i)), some (.int (nI n)), none, none, none] [] M 0 0 from HH M0 ⟨hW0, Off.rf M0⟩
  intro M hW
  have hn12 := hw.1.1
  have hwd := (hw.2 p hp).1
  have hhg := (hw.2 p hp).2
  have hip := ir_nI (n := nP τ) (by omega) hp
  have hik : irg (nI k) 0 3 := irg_nI (b := 3) (by decide) (by omega)
  have hsk := hs.ok hk h0
  have hb : bar τ k l (nI i) (nI n).toInt64 = 0 := bar_0 hs hk h0 hll hi
  have hra := c_X12_readActs (τ := τ) (b := 60 * k + i) (n := n) (by omega) (by omega)
  rw [hq] at hra
  have hfp := rdA_pos 5 0 [] f (by omega) hq
  refine aw_aload0 0 dX12_act_0 ?_
  refine aw_iload1 1 dX12_act_1 ?_
  refine rw_call1 2 dX12_act_2 (c_X12_noPicture hw) ckV_RX12_146 cd_X12_noPicture rfl hW rfl (Nat.le_of_ble_eq_true rfl) ⟨⟨by decide, by decide⟩, by decide, by decide⟩ rfl (fun M hW => ?_)
  refine aw_ifne_b 5 15 dX12_act_5 (by decide) (fun h5 => ?_) (fun h5 => ?_)
  · first | exact absurd hip h5 | exact absurd hik h12
  · refine aw_iload2 8 dX12_act_8 ?_
    refine sd_call1 9 dX12_act_9 (c_X12_noSheet) ckS_RX12_110 cd_X12_noSheet rfl (Nat.le_of_ble_eq_true rfl) ⟨⟨by decide, by decide⟩, by decide, by decide⟩ rfl ?_
    refine aw_ifeq_b 12 21 dX12_act_12 (by decide) (fun h12 => ?_) (fun h12 => ?_)
    · refine aw_iload3 21 dX12_act_21 ?_
      refine sd_call1 22 dX12_act_22 (c_X12_isLane) ckS_RX12_119 cd_X12_isLane rfl (Nat.le_of_ble_eq_true rfl) ⟨⟨by decide, by decide⟩, by decide, by decide⟩ rfl ?_
      refine aw_ifne_b 25 35 dX12_act_25 (by decide) (fun h25 => ?_) (fun h25 => ?_)
      · refine aw_aload0 35 dX12_act_35 ?_
        refine aw_iload2 36 dX12_act_36 ?_
        refine aw_iload3 37 dX12_act_37 ?_
        refine aw_iload4 38 dX12_act_38 ?_
        refine aw_iload5 40 dX12_act_40 ?_
        refine aw_i2l 42 dX12_act_42 ?_
        refine rw_call1 43 dX12_act_43 (c_bar0 hk hb) ckV_RX12_122 cd_X12_barred rfl hW rfl (Nat.le_of_ble_eq_true rfl) ⟨⟨by decide, by decide⟩, by decide, by decide⟩ rfl (fun M hW => ?_)
        refine aw_istore6 46 dX12_act_46 rfl ?_
        refine aw_iload6 48 dX12_act_48 ?_
        refine aw_if_geN 50 56 (0) dX12_act_50 (by decide) rfl (by omega) ?_
        refine aw_aload0 56 dX12_act_56 ?_
        refine aw_bipush 57 60 dX12_act_57 (by decide) ?_
        refine aw_iload2 59 dX12_act_59 ?_
        refine aw_imulN 60 (60) (k) dX12_act_60 rfl rfl ?_
        refine aw_iload4 61 dX12_act_61 ?_
        refine aw_iaddN 63 (60 * k) (i) dX12_act_63 rfl rfl ?_
        refine aw_iload5 64 dX12_act_64 ?_
        refine rp_call1 66 dX12_act_66 hra ckV_RX12_201 cd_X12_readActs rfl hW rfl (Nat.le_of_ble_eq_true rfl) ⟨⟨by decide, by decide⟩, by decide, by decide⟩ rfl (fun σ M hpσ hW => ?_)
        refine aw_topi (w := nI f) rfl ?_
        refine aw_istore7 69 dX12_act_69 rfl ?_
        refine aw_iload7 71 dX12_act_71 ?_
        refine aw_if_ltN 73 86 (f) dX12_act_73 (by decide) rfl (by omega) ?_
        refine aw_aload0 76 dX12_act_76 ?_
        refine aw_bipush 77 (-100) dX12_act_77 (by decide) ?_
        refine aw_iload7 79 dX12_act_79 ?_
        refine aw_isub 81 dX12_act_81 ?_
        refine rw_call1 82 dX12_act_82 c_X12_refused ckV_RX12_114 cd_X12_refused rfl hW rfl (Nat.le_of_ble_eq_true rfl) ⟨⟨by decide, by decide⟩, by decide, by decide⟩ rfl (fun M hW => ?_)
        refine aw_iret 85 dX12_act_85 rfl (Nat.zero_le _) (Nat.zero_le _) ?_
        exact ⟨rfl, _, hW, obs_tu2 hpσ.1⟩
      · exact absurd hl h25
    · first | exact absurd hip h5 | exact absurd hik h12

set_option maxHeartbeats 4000000 in
set_option maxRecDepth 100000 in
theorem n5_X12_act {τ : TT} {p k i n : Nat} {l : Int32} {ls : List (Int32 × Nat)} (hw : WP τ) (hp : p < nP τ) (hk : k < 4) (hl : irg l 0 2) (hs : WS τ) (h0 : ¬ τ 28 k < 0) (hll : τ 29 k = l) (hi : i + n ≤ ssz τ k) (hq : rdA (fun j => τ 30 (60 * k + i + j)) n 5 0 [] = .inr ls) (hd : dL (hOf τ p) ls = none) : RE mX12_act rmX12_act [.int (nI p), .int (nI k), .int l, .int (nI i), .int (nI n)] τ (some (.int (-3))) (tu τ 0 0 0) := by
  intro M0 hW0
  refine am_of rfl rfl (ls := [some (.ref 25), some (.int (nI p)), some (.int (nI k)), some (.int l), some (.int (nI i)), some (.int (nI n)), none, none, none]) rfl ?_
  suffices HH : ∀ M, RO τ M0 M → AW mX12_act rmX12_act (fun r' M' => r' = (some (.int (-3))) ∧ ∃ σ, RO σ M0 M' ∧ Obs σ (tu τ 0 0 0)) 0 [some (.ref 25), some (.int (nI p)), some (.int (nI k)), some (.int l), some (.int (nI i)), some (.int (nI n)), none, none, none] [] M 0 0 from HH M0 ⟨hW0, Off.rf M0⟩
  intro M hW
  have hn12 := hw.1.1
  have hwd := (hw.2 p hp).1
  have hhg := (hw.2 p hp).2
  have hip := ir_nI (n := nP τ) (by omega) hp
  have hik : irg (nI k) 0 3 := irg_nI (b := 3) (by decide) (by omega)
  have hsk := hs.ok hk h0
  have hb : bar τ k l (nI i) (nI n).toInt64 = 0 := bar_0 hs hk h0 hll hi
  have hra := c_X12_readActs (τ := τ) (b := 60 * k + i) (n := n) (by omega) (by omega)
  rw [hq] at hra
  refine aw_aload0 0 dX12_act_0 ?_
  refine aw_iload1 1 dX12_act_1 ?_
  refine rw_call1 2 dX12_act_2 (c_X12_noPicture hw) ckV_RX12_146 cd_X12_noPicture rfl hW rfl (Nat.le_of_ble_eq_true rfl) ⟨⟨by decide, by decide⟩, by decide, by decide⟩ rfl (fun M hW => ?_)
  refine aw_ifne_b 5 15 dX12_act_5 (by decide) (fun h5 => ?_) (fun h5 => ?_)
  · first | exact absurd hip h5 | exact absurd hik h12
  · refine aw_iload2 8 dX12_act_8 ?_
    refine sd_call1 9 dX12_act_9 (c_X12_noSheet) ckS_RX12_110 cd_X12_noSheet rfl (Nat.le_of_ble_eq_true rfl) ⟨⟨by decide, by decide⟩, by decide, by decide⟩ rfl ?_
    refine aw_ifeq_b 12 21 dX12_act_12 (by decide) (fun h12 => ?_) (fun h12 => ?_)
    · refine aw_iload3 21 dX12_act_21 ?_
      refine sd_call1 22 dX12_act_22 (c_X12_isLane) ckS_RX12_119 cd_X12_isLane rfl (Nat.le_of_ble_eq_true rfl) ⟨⟨by decide, by decide⟩, by decide, by decide⟩ rfl ?_
      refine aw_ifne_b 25 35 dX12_act_25 (by decide) (fun h25 => ?_) (fun h25 => ?_)
      · refine aw_aload0 35 dX12_act_35 ?_
        refine aw_iload2 36 dX12_act_36 ?_
        refine aw_iload3 37 dX12_act_37 ?_
        refine aw_iload4 38 dX12_act_38 ?_
        refine aw_iload5 40 dX12_act_40 ?_
        refine aw_i2l 42 dX12_act_42 ?_
        refine rw_call1 43 dX12_act_43 (c_bar0 hk hb) ckV_RX12_122 cd_X12_barred rfl hW rfl (Nat.le_of_ble_eq_true rfl) ⟨⟨by decide, by decide⟩, by decide, by decide⟩ rfl (fun M hW => ?_)
        refine aw_istore6 46 dX12_act_46 rfl ?_
        refine aw_iload6 48 dX12_act_48 ?_
        refine aw_if_geN 50 56 (0) dX12_act_50 (by decide) rfl (by omega) ?_
        refine aw_aload0 56 dX12_act_56 ?_
        refine aw_bipush 57 60 dX12_act_57 (by decide) ?_
        refine aw_iload2 59 dX12_act_59 ?_
        refine aw_imulN 60 (60) (k) dX12_act_60 rfl rfl ?_
        refine aw_iload4 61 dX12_act_61 ?_
        refine aw_iaddN 63 (60 * k) (i) dX12_act_63 rfl rfl ?_
        refine aw_iload5 64 dX12_act_64 ?_
        refine rp_call1 66 dX12_act_66 hra ckV_RX12_201 cd_X12_readActs rfl hW rfl (Nat.le_of_ble_eq_true rfl) ⟨⟨by decide, by decide⟩, by decide, by decide⟩ rfl (fun σ M hpσ hW => ?_)
        have hpσ2 := hpσ.2 ls rfl
        have hw1 := hpσ.1.WPe hw
        have hp1 : p < nP σ := by rw [hpσ.1.nPe]; exact hp
        have hHR := tih_HR hw1 hp1
        rw [hpσ.1.hOfe p] at hHR
        have hokA : ∀ q, q ∈ ls → okA q := rdA_ok 5 0 [] ls hq (fun q hq => absurd hq List.not_mem_nil)
        refine aw_istore7 69 dX12_act_69 rfl ?_
        refine aw_iload7 71 dX12_act_71 ?_
        refine aw_if_lt 73 86 dX12_act_73 (by decide) (fun _ => ?_) (fun h => absurd (show raR (.inr ls) < 0 from (show (-1 : Int32) < 0 by decide)) h)
        refine aw_aload0 86 dX12_act_86 ?_
        refine aw_iload1 87 dX12_act_87 ?_
        refine rw_call0 88 dX12_act_88 (c_X12_takeInHand (by omega)) ckV_RX12_204 cd_X12_takeInHand rfl hW rfl (Nat.le_of_ble_eq_true rfl) ⟨⟨by decide, by decide⟩, by decide, by decide⟩ rfl (fun M hW => ?_)
        refine aw_aload0 91 dX12_act_91 ?_
        refine aw_aload0 92 dX12_act_92 ?_
        refine rw_ga 93 7 dX12_act_93 ckF_RX12_22_12 (by decide) (by decide) hW ?_
        refine aw_ic0 96 dX12_act_96 ?_
        refine aw_aload0 97 dX12_act_97 ?_
        refine rw_gi 98 6 dX12_act_98 ckF_RX12_166_12 (by decide) rfl hW ?_
        refine aw_topi (w := nI ls.length) (by rw [tih_ne (by decide)]; exact hpσ2.1) ?_
        have hac : ∀ j, j < ls.length → ∃ a, ls[j]? = some a ∧ actR (tih σ p 7) (0 + 5 * j) a := fun j hj => by
          rw [tih_ne (by decide), Nat.zero_add]
          exact hpσ2.2.2 j hj
        have hact : ∀ j, j < ls.length → actOK (tih σ p 7) (0 + 5 * j) := fun j hj => by
          obtain ⟨a, ha, hb⟩ := hac j hj
          exact actR_OK hb (hokA a (List.mem_of_getElem? ha))
        have hrel := dAs_rel (f := 7) (fr := 0) hHR.1 hHR.2 (Or.inl rfl) ls.length
        rw [dH_L hac hokA, hd] at hrel
        refine rw_call1 101 dX12_act_101 (c_X12_doActs (f := 7) (fr := 0) (n := ls.length) (Or.inl rfl) hpσ2.2.1 (show 0 + 5 * ls.length ≤ 25 by have := hpσ2.2.1; omega) hHR.2 hact) ckV_RX12_207 cd_X12_doActs rfl hW rfl (Nat.le_of_ble_eq_true rfl) ⟨⟨by decide, by decide⟩, by decide, by decide⟩ rfl (fun M hW => ?_)
        refine aw_ifne_b 104 114 dX12_act_104 (by decide) (fun h104 => ?_) (fun h104 => ?_)
        · exact absurd h104 (by rw [hrel.2 rfl]; decide)
        · refine aw_aload0 107 dX12_act_107 ?_
          refine aw_bipush 108 (-3) dX12_act_108 (by decide) ?_
          refine rw_call1 110 dX12_act_110 c_X12_refused ckV_RX12_114 cd_X12_refused rfl hW rfl (Nat.le_of_ble_eq_true rfl) ⟨⟨by decide, by decide⟩, by decide, by decide⟩ rfl (fun M hW => ?_)
          refine aw_iret 113 dX12_act_113 rfl (Nat.zero_le _) (Nat.zero_le _) ?_
          exact ⟨rfl, _, hW, obs_tu2 (dAs_obs.trans (tih_obs.trans hpσ.1))⟩
      · exact absurd hl h25
    · first | exact absurd hip h5 | exact absurd hik h12

set_option maxHeartbeats 4000000 in
set_option maxRecDepth 100000 in
theorem n6_X12_act {τ : TT} {p k i n : Nat} {l : Int32} {ls : List (Int32 × Nat)} {u : HS} (hw : WP τ) (hp : p < nP τ) (hk : k < 4) (hl : irg l 0 2) (hs : WS τ) (h0 : ¬ τ 28 k < 0) (hll : τ 29 k = l) (hi : i + n ≤ ssz τ k) (hq : rdA (fun j => τ 30 (60 * k + i + j)) n 5 0 [] = .inr ls) (hd : dL (hOf τ p) ls = some u) (hf : nP τ = 12) : RE mX12_act rmX12_act [.int (nI p), .int (nI k), .int l, .int (nI i), .int (nI n)] τ (some (.int (-4))) (tu τ 0 0 0) := by
  intro M0 hW0
  refine am_of rfl rfl (ls := [some (.ref 25), some (.int (nI p)), some (.int (nI k)), some (.int l), some (.int (nI i)), some (.int (nI n)), none, none, none]) rfl ?_
  suffices HH : ∀ M, RO τ M0 M → AW mX12_act rmX12_act (fun r' M' => r' = (some (.int (-4))) ∧ ∃ σ, RO σ M0 M' ∧ Obs σ (tu τ 0 0 0)) 0 [some (.ref 25), some (.int (nI p)), some (.int (nI k)), some (.int l), some (.int (nI i)), some (.int (nI n)), none, none, none] [] M 0 0 from HH M0 ⟨hW0, Off.rf M0⟩
  intro M hW
  have hn12 := hw.1.1
  have hwd := (hw.2 p hp).1
  have hhg := (hw.2 p hp).2
  have hip := ir_nI (n := nP τ) (by omega) hp
  have hik : irg (nI k) 0 3 := irg_nI (b := 3) (by decide) (by omega)
  have hsk := hs.ok hk h0
  have hb : bar τ k l (nI i) (nI n).toInt64 = 0 := bar_0 hs hk h0 hll hi
  have hra := c_X12_readActs (τ := τ) (b := 60 * k + i) (n := n) (by omega) (by omega)
  rw [hq] at hra
  refine aw_aload0 0 dX12_act_0 ?_
  refine aw_iload1 1 dX12_act_1 ?_
  refine rw_call1 2 dX12_act_2 (c_X12_noPicture hw) ckV_RX12_146 cd_X12_noPicture rfl hW rfl (Nat.le_of_ble_eq_true rfl) ⟨⟨by decide, by decide⟩, by decide, by decide⟩ rfl (fun M hW => ?_)
  refine aw_ifne_b 5 15 dX12_act_5 (by decide) (fun h5 => ?_) (fun h5 => ?_)
  · first | exact absurd hip h5 | exact absurd hik h12
  · refine aw_iload2 8 dX12_act_8 ?_
    refine sd_call1 9 dX12_act_9 (c_X12_noSheet) ckS_RX12_110 cd_X12_noSheet rfl (Nat.le_of_ble_eq_true rfl) ⟨⟨by decide, by decide⟩, by decide, by decide⟩ rfl ?_
    refine aw_ifeq_b 12 21 dX12_act_12 (by decide) (fun h12 => ?_) (fun h12 => ?_)
    · refine aw_iload3 21 dX12_act_21 ?_
      refine sd_call1 22 dX12_act_22 (c_X12_isLane) ckS_RX12_119 cd_X12_isLane rfl (Nat.le_of_ble_eq_true rfl) ⟨⟨by decide, by decide⟩, by decide, by decide⟩ rfl ?_
      refine aw_ifne_b 25 35 dX12_act_25 (by decide) (fun h25 => ?_) (fun h25 => ?_)
      · refine aw_aload0 35 dX12_act_35 ?_
        refine aw_iload2 36 dX12_act_36 ?_
        refine aw_iload3 37 dX12_act_37 ?_
        refine aw_iload4 38 dX12_act_38 ?_
        refine aw_iload5 40 dX12_act_40 ?_
        refine aw_i2l 42 dX12_act_42 ?_
        refine rw_call1 43 dX12_act_43 (c_bar0 hk hb) ckV_RX12_122 cd_X12_barred rfl hW rfl (Nat.le_of_ble_eq_true rfl) ⟨⟨by decide, by decide⟩, by decide, by decide⟩ rfl (fun M hW => ?_)
        refine aw_istore6 46 dX12_act_46 rfl ?_
        refine aw_iload6 48 dX12_act_48 ?_
        refine aw_if_geN 50 56 (0) dX12_act_50 (by decide) rfl (by omega) ?_
        refine aw_aload0 56 dX12_act_56 ?_
        refine aw_bipush 57 60 dX12_act_57 (by decide) ?_
        refine aw_iload2 59 dX12_act_59 ?_
        refine aw_imulN 60 (60) (k) dX12_act_60 rfl rfl ?_
        refine aw_iload4 61 dX12_act_61 ?_
        refine aw_iaddN 63 (60 * k) (i) dX12_act_63 rfl rfl ?_
        refine aw_iload5 64 dX12_act_64 ?_
        refine rp_call1 66 dX12_act_66 hra ckV_RX12_201 cd_X12_readActs rfl hW rfl (Nat.le_of_ble_eq_true rfl) ⟨⟨by decide, by decide⟩, by decide, by decide⟩ rfl (fun σ M hpσ hW => ?_)
        have hpσ2 := hpσ.2 ls rfl
        have hw1 := hpσ.1.WPe hw
        have hp1 : p < nP σ := by rw [hpσ.1.nPe]; exact hp
        have hHR := tih_HR hw1 hp1
        rw [hpσ.1.hOfe p] at hHR
        have hokA : ∀ q, q ∈ ls → okA q := rdA_ok 5 0 [] ls hq (fun q hq => absurd hq List.not_mem_nil)
        refine aw_istore7 69 dX12_act_69 rfl ?_
        refine aw_iload7 71 dX12_act_71 ?_
        refine aw_if_lt 73 86 dX12_act_73 (by decide) (fun _ => ?_) (fun h => absurd (show raR (.inr ls) < 0 from (show (-1 : Int32) < 0 by decide)) h)
        refine aw_aload0 86 dX12_act_86 ?_
        refine aw_iload1 87 dX12_act_87 ?_
        refine rw_call0 88 dX12_act_88 (c_X12_takeInHand (by omega)) ckV_RX12_204 cd_X12_takeInHand rfl hW rfl (Nat.le_of_ble_eq_true rfl) ⟨⟨by decide, by decide⟩, by decide, by decide⟩ rfl (fun M hW => ?_)
        refine aw_aload0 91 dX12_act_91 ?_
        refine aw_aload0 92 dX12_act_92 ?_
        refine rw_ga 93 7 dX12_act_93 ckF_RX12_22_12 (by decide) (by decide) hW ?_
        refine aw_ic0 96 dX12_act_96 ?_
        refine aw_aload0 97 dX12_act_97 ?_
        refine rw_gi 98 6 dX12_act_98 ckF_RX12_166_12 (by decide) rfl hW ?_
        refine aw_topi (w := nI ls.length) (by rw [tih_ne (by decide)]; exact hpσ2.1) ?_
        have hac : ∀ j, j < ls.length → ∃ a, ls[j]? = some a ∧ actR (tih σ p 7) (0 + 5 * j) a := fun j hj => by
          rw [tih_ne (by decide), Nat.zero_add]
          exact hpσ2.2.2 j hj
        have hact : ∀ j, j < ls.length → actOK (tih σ p 7) (0 + 5 * j) := fun j hj => by
          obtain ⟨a, ha, hb⟩ := hac j hj
          exact actR_OK hb (hokA a (List.mem_of_getElem? ha))
        have hrel := dAs_rel (f := 7) (fr := 0) hHR.1 hHR.2 (Or.inl rfl) ls.length
        rw [dH_L hac hokA, hd] at hrel
        refine rw_call1 101 dX12_act_101 (c_X12_doActs (f := 7) (fr := 0) (n := ls.length) (Or.inl rfl) hpσ2.2.1 (show 0 + 5 * ls.length ≤ 25 by have := hpσ2.2.1; omega) hHR.2 hact) ckV_RX12_207 cd_X12_doActs rfl hW rfl (Nat.le_of_ble_eq_true rfl) ⟨⟨by decide, by decide⟩, by decide, by decide⟩ rfl (fun M hW => ?_)
        refine aw_ifne_b 104 114 dX12_act_104 (by decide) (fun h104 => ?_) (fun h104 => ?_)
        · have hrl := (hrel.1 u rfl).2
          have hWHd := dAs_WH (f := 7) (fr := 0) (n := ls.length) hHR.2
          have hob : Obs (dAs 7 0 (tih σ p) ls.length).2 τ := (dAs_obs.trans (tih_obs.trans hpσ.1))
          have hn1 : (dAs 7 0 (tih σ p) ls.length).2 1 0 = nI (nP τ) := by rw [hob 1 (by decide)]; exact hw.1.2
          refine aw_aload0 114 dX12_act_114 ?_
          refine rw_gi 115 1 dX12_act_115 ckF_RX12_105_12 (by decide) rfl hW ?_
          refine aw_topi (w := nI (nP τ)) hn1 ?_
          refine aw_bipush 118 12 dX12_act_118 (by decide) ?_
          refine aw_icmp_neN 120 130 (nP τ) (12) dX12_act_120 (by decide) rfl rfl (by omega) (by omega) (fun h120 => ?_) (fun h120 => ?_)
          · exact absurd hf h120
          · refine aw_aload0 123 dX12_act_123 ?_
            refine aw_bipush 124 (-4) dX12_act_124 (by decide) ?_
            refine rw_call1 126 dX12_act_126 c_X12_refused ckV_RX12_114 cd_X12_refused rfl hW rfl (Nat.le_of_ble_eq_true rfl) ⟨⟨by decide, by decide⟩, by decide, by decide⟩ rfl (fun M hW => ?_)
            refine aw_iret 129 dX12_act_129 rfl (Nat.zero_le _) (Nat.zero_le _) ?_
            exact ⟨rfl, _, hW, obs_tu2 (dAs_obs.trans (tih_obs.trans hpσ.1))⟩
        · exact absurd (hrel.1 u rfl).1 h104
      · exact absurd hl h25
    · first | exact absurd hip h5 | exact absurd hik h12

set_option maxHeartbeats 4000000 in
set_option maxRecDepth 100000 in
theorem c_X12_act {τ : TT} {p k i n : Nat} {l : Int32} {ls : List (Int32 × Nat)} {u : HS} (hw : WP τ) (hp : p < nP τ) (hk : k < 4) (hl : irg l 0 2) (hs : WS τ) (h0 : ¬ τ 28 k < 0) (hll : τ 29 k = l) (hi : i + n ≤ ssz τ k) (hq : rdA (fun j => τ 30 (60 * k + i + j)) n 5 0 [] = .inr ls) (hd : dL (hOf τ p) ls = some u) (hf : ¬ nP τ = 12) : RE mX12_act rmX12_act [.int (nI p), .int (nI k), .int l, .int (nI i), .int (nI n)] τ (some (.int (nI (nP τ)))) (tAc τ u) := by
  intro M0 hW0
  refine am_of rfl rfl (ls := [some (.ref 25), some (.int (nI p)), some (.int (nI k)), some (.int l), some (.int (nI i)), some (.int (nI n)), none, none, none]) rfl ?_
  suffices HH : ∀ M, RO τ M0 M → AW mX12_act rmX12_act (fun r' M' => r' = (some (.int (nI (nP τ)))) ∧ ∃ σ, RO σ M0 M' ∧ Obs σ (tAc τ u)) 0 [some (.ref 25), some (.int (nI p)), some (.int (nI k)), some (.int l), some (.int (nI i)), some (.int (nI n)), none, none, none] [] M 0 0 from HH M0 ⟨hW0, Off.rf M0⟩
  intro M hW
  have hn12 := hw.1.1
  have hwd := (hw.2 p hp).1
  have hhg := (hw.2 p hp).2
  have hip := ir_nI (n := nP τ) (by omega) hp
  have hik : irg (nI k) 0 3 := irg_nI (b := 3) (by decide) (by omega)
  have hsk := hs.ok hk h0
  have hb : bar τ k l (nI i) (nI n).toInt64 = 0 := bar_0 hs hk h0 hll hi
  have hra := c_X12_readActs (τ := τ) (b := 60 * k + i) (n := n) (by omega) (by omega)
  rw [hq] at hra
  refine aw_aload0 0 dX12_act_0 ?_
  refine aw_iload1 1 dX12_act_1 ?_
  refine rw_call1 2 dX12_act_2 (c_X12_noPicture hw) ckV_RX12_146 cd_X12_noPicture rfl hW rfl (Nat.le_of_ble_eq_true rfl) ⟨⟨by decide, by decide⟩, by decide, by decide⟩ rfl (fun M hW => ?_)
  refine aw_ifne_b 5 15 dX12_act_5 (by decide) (fun h5 => ?_) (fun h5 => ?_)
  · first | exact absurd hip h5 | exact absurd hik h12
  · refine aw_iload2 8 dX12_act_8 ?_
    refine sd_call1 9 dX12_act_9 (c_X12_noSheet) ckS_RX12_110 cd_X12_noSheet rfl (Nat.le_of_ble_eq_true rfl) ⟨⟨by decide, by decide⟩, by decide, by decide⟩ rfl ?_
    refine aw_ifeq_b 12 21 dX12_act_12 (by decide) (fun h12 => ?_) (fun h12 => ?_)
    · refine aw_iload3 21 dX12_act_21 ?_
      refine sd_call1 22 dX12_act_22 (c_X12_isLane) ckS_RX12_119 cd_X12_isLane rfl (Nat.le_of_ble_eq_true rfl) ⟨⟨by decide, by decide⟩, by decide, by decide⟩ rfl ?_
      refine aw_ifne_b 25 35 dX12_act_25 (by decide) (fun h25 => ?_) (fun h25 => ?_)
      · refine aw_aload0 35 dX12_act_35 ?_
        refine aw_iload2 36 dX12_act_36 ?_
        refine aw_iload3 37 dX12_act_37 ?_
        refine aw_iload4 38 dX12_act_38 ?_
        refine aw_iload5 40 dX12_act_40 ?_
        refine aw_i2l 42 dX12_act_42 ?_
        refine rw_call1 43 dX12_act_43 (c_bar0 hk hb) ckV_RX12_122 cd_X12_barred rfl hW rfl (Nat.le_of_ble_eq_true rfl) ⟨⟨by decide, by decide⟩, by decide, by decide⟩ rfl (fun M hW => ?_)
        refine aw_istore6 46 dX12_act_46 rfl ?_
        refine aw_iload6 48 dX12_act_48 ?_
        refine aw_if_geN 50 56 (0) dX12_act_50 (by decide) rfl (by omega) ?_
        refine aw_aload0 56 dX12_act_56 ?_
        refine aw_bipush 57 60 dX12_act_57 (by decide) ?_
        refine aw_iload2 59 dX12_act_59 ?_
        refine aw_imulN 60 (60) (k) dX12_act_60 rfl rfl ?_
        refine aw_iload4 61 dX12_act_61 ?_
        refine aw_iaddN 63 (60 * k) (i) dX12_act_63 rfl rfl ?_
        refine aw_iload5 64 dX12_act_64 ?_
        refine rp_call1 66 dX12_act_66 hra ckV_RX12_201 cd_X12_readActs rfl hW rfl (Nat.le_of_ble_eq_true rfl) ⟨⟨by decide, by decide⟩, by decide, by decide⟩ rfl (fun σ M hpσ hW => ?_)
        have hpσ2 := hpσ.2 ls rfl
        have hw1 := hpσ.1.WPe hw
        have hp1 : p < nP σ := by rw [hpσ.1.nPe]; exact hp
        have hHR := tih_HR hw1 hp1
        rw [hpσ.1.hOfe p] at hHR
        have hokA : ∀ q, q ∈ ls → okA q := rdA_ok 5 0 [] ls hq (fun q hq => absurd hq List.not_mem_nil)
        refine aw_istore7 69 dX12_act_69 rfl ?_
        refine aw_iload7 71 dX12_act_71 ?_
        refine aw_if_lt 73 86 dX12_act_73 (by decide) (fun _ => ?_) (fun h => absurd (show raR (.inr ls) < 0 from (show (-1 : Int32) < 0 by decide)) h)
        refine aw_aload0 86 dX12_act_86 ?_
        refine aw_iload1 87 dX12_act_87 ?_
        refine rw_call0 88 dX12_act_88 (c_X12_takeInHand (by omega)) ckV_RX12_204 cd_X12_takeInHand rfl hW rfl (Nat.le_of_ble_eq_true rfl) ⟨⟨by decide, by decide⟩, by decide, by decide⟩ rfl (fun M hW => ?_)
        refine aw_aload0 91 dX12_act_91 ?_
        refine aw_aload0 92 dX12_act_92 ?_
        refine rw_ga 93 7 dX12_act_93 ckF_RX12_22_12 (by decide) (by decide) hW ?_
        refine aw_ic0 96 dX12_act_96 ?_
        refine aw_aload0 97 dX12_act_97 ?_
        refine rw_gi 98 6 dX12_act_98 ckF_RX12_166_12 (by decide) rfl hW ?_
        refine aw_topi (w := nI ls.length) (by rw [tih_ne (by decide)]; exact hpσ2.1) ?_
        have hac : ∀ j, j < ls.length → ∃ a, ls[j]? = some a ∧ actR (tih σ p 7) (0 + 5 * j) a := fun j hj => by
          rw [tih_ne (by decide), Nat.zero_add]
          exact hpσ2.2.2 j hj
        have hact : ∀ j, j < ls.length → actOK (tih σ p 7) (0 + 5 * j) := fun j hj => by
          obtain ⟨a, ha, hb⟩ := hac j hj
          exact actR_OK hb (hokA a (List.mem_of_getElem? ha))
        have hrel := dAs_rel (f := 7) (fr := 0) hHR.1 hHR.2 (Or.inl rfl) ls.length
        rw [dH_L hac hokA, hd] at hrel
        refine rw_call1 101 dX12_act_101 (c_X12_doActs (f := 7) (fr := 0) (n := ls.length) (Or.inl rfl) hpσ2.2.1 (show 0 + 5 * ls.length ≤ 25 by have := hpσ2.2.1; omega) hHR.2 hact) ckV_RX12_207 cd_X12_doActs rfl hW rfl (Nat.le_of_ble_eq_true rfl) ⟨⟨by decide, by decide⟩, by decide, by decide⟩ rfl (fun M hW => ?_)
        refine aw_ifne_b 104 114 dX12_act_104 (by decide) (fun h104 => ?_) (fun h104 => ?_)
        · have hrl := (hrel.1 u rfl).2
          have hWHd := dAs_WH (f := 7) (fr := 0) (n := ls.length) hHR.2
          have hob : Obs (dAs 7 0 (tih σ p) ls.length).2 τ := (dAs_obs.trans (tih_obs.trans hpσ.1))
          have hn1 : (dAs 7 0 (tih σ p) ls.length).2 1 0 = nI (nP τ) := by rw [hob 1 (by decide)]; exact hw.1.2
          refine aw_aload0 114 dX12_act_114 ?_
          refine rw_gi 115 1 dX12_act_115 ckF_RX12_105_12 (by decide) rfl hW ?_
          refine aw_topi (w := nI (nP τ)) hn1 ?_
          refine aw_bipush 118 12 dX12_act_118 (by decide) ?_
          refine aw_icmp_neN 120 130 (nP τ) (12) dX12_act_120 (by decide) rfl rfl (by omega) (by omega) (fun h120 => ?_) (fun h120 => ?_)
          · refine aw_aload0 130 dX12_act_130 ?_
            refine rw_ga 131 2 dX12_act_131 ckF_RX12_7_12 (by decide) (by decide) hW ?_
            refine aw_aload0 134 dX12_act_134 ?_
            refine rw_gi 135 1 dX12_act_135 ckF_RX12_105_12 (by decide) rfl hW ?_
            refine aw_topi (w := nI (nP τ)) hn1 ?_
            refine aw_aload0 138 dX12_act_138 ?_
            refine rw_gi 139 9 dX12_act_139 ckF_RX12_178_12 (by decide) rfl hW ?_
            
            refine rw_st 142 2 (nP τ) dX12_act_142 hW rfl (show nP τ < 12 by omega) (fun M hW => ?_)
            refine aw_aload0 143 dX12_act_143 ?_
            refine rw_ga 144 3 dX12_act_144 ckF_RX12_13_12 (by decide) (by decide) hW ?_
            refine aw_aload0 147 dX12_act_147 ?_
            refine rw_gi 148 1 dX12_act_148 ckF_RX12_105_12 (by decide) rfl hW ?_
            refine aw_topi (w := nI (nP τ)) (by rw [tu_ne (by decide)]; exact hn1) ?_
            refine aw_aload0 151 dX12_act_151 ?_
            replace hW := ro_obs hW (show _ = tu (dAs 7 0 (tih σ p) ls.length).2 2 (nP τ) ((dAs 7 0 (tih σ p) ls.length).2 9 0) from rfl)
            refine rw_gi 152 10 dX12_act_152 ckF_RX12_181_12 (by decide) rfl hW ?_
            refine aw_topi (w := (dAs 7 0 (tih σ p) ls.length).2 10 0) (by rw [tu_ne (by decide)]) ?_
            refine rw_st 155 3 (nP τ) dX12_act_155 hW rfl (show nP τ < 12 by omega) (fun M hW => ?_)
            refine aw_ic0 156 dX12_act_156 ?_
            refine aw_istore8 157 dX12_act_157 rfl ?_
            have LP159 : ∀ (dd : Nat) (x : Nat) (M : Mem), 16 - x = dd → (x ≤ 16) → (RO (ov (tu (tu (dAs 7 0 (tih σ p) ls.length).2 2 (nP τ) ((dAs 7 0 (tih σ p) ls.length).2 9 0)) 3 (nP τ) ((dAs 7 0 (tih σ p) ls.length).2 10 0)) 4 (16 * nP τ) (16 * nP τ + x) (fun b => (dAs 7 0 (tih σ p) ls.length).2 11 (b - 16 * nP τ))) M0 M) → AW mX12_act rmX12_act (fun r' M' => r' = (some (.int (nI (nP τ)))) ∧ ∃ σ, RO σ M0 M' ∧ Obs σ (tAc τ u)) 159 [some (.ref 25), some (.int (nI p)), some (.int (nI k)), some (.int l), some (.int (nI i)), some (.int (nI n)), some (.int 0), some (.int (raR (.inr ls))), some (.int (nI x))] [] M 0 0 := by
              intro dd
              induction dd using Nat.strongRecOn with
              | _ dd ih159 =>
                intro x M hdd hx hW
                refine aw_iload8 159 dX12_act_159 ?_
                refine aw_bipush 161 16 dX12_act_161 (by decide) ?_
                refine aw_icmp_geN 163 194 (x) (16) dX12_act_163 (by decide) rfl rfl (by omega) (by omega) (fun h163 => ?_) (fun h163 => ?_)
                · have he : x = 16 := by omega
                  subst he
                  refine aw_aload0 194 dX12_act_194 ?_
                  refine aw_dup 195 dX12_act_195 rfl ?_
                  refine rw_gi 196 1 dX12_act_196 ckF_RX12_105_12 (by decide) rfl hW ?_
                  refine aw_topi (w := nI (nP τ)) (by rw [ov_ne (by decide), tu_ne (by decide), tu_ne (by decide)]; exact hn1) ?_
                  refine aw_ic1 199 dX12_act_199 ?_
                  refine aw_iaddN 200 (nP τ) (1) dX12_act_200 rfl rfl ?_
                  refine rw_pi 201 1 dX12_act_201 ckF_RX12_105_12 ckP12_1 rfl (by decide) rfl hW (fun M hW => ?_)
                  refine aw_aload0 204 dX12_act_204 ?_
                  refine aw_aload0 205 dX12_act_205 ?_
                  refine rw_gi 206 1 dX12_act_206 ckF_RX12_105_12 (by decide) rfl hW ?_
                  refine aw_topi (w := nI (nP τ + 1)) tu_at ?_
                  refine aw_ic1 209 dX12_act_209 ?_
                  refine aw_isubN 210 (nP τ + 1) (1) dX12_act_210 rfl rfl (by omega) ?_
                  refine rw_call1 211 dX12_act_211 c_X12_refused ckV_RX12_114 cd_X12_refused rfl hW rfl (Nat.le_of_ble_eq_true rfl) ⟨⟨by decide, by decide⟩, by decide, by decide⟩ rfl (fun M hW => ?_)
                  refine aw_iret 214 dX12_act_214 rfl (Nat.zero_le _) (Nat.zero_le _) ?_
                  refine ⟨rfl, _, hW, ?_⟩
                  unfold tAc
                  rw [← hrl.2.1, ← hrl.2.2, ← hWHd.1.1, ← hWHd.2.1]
                  exact obs_tu2 (obs_tu2 (obs_ov2 (obs_tu2 (obs_tu2 hob)) (fun b h1 h2 => hrl.1 _ (by omega))))
                · refine aw_aload0 166 dX12_act_166 ?_
                  refine rw_ga 167 4 dX12_act_167 ckF_RX12_16_12 (by decide) (by decide) hW ?_
                  refine aw_bipush 170 16 dX12_act_170 (by decide) ?_
                  refine aw_aload0 172 dX12_act_172 ?_
                  refine rw_gi 173 1 dX12_act_173 ckF_RX12_105_12 (by decide) rfl hW ?_
                  refine aw_topi (w := nI (nP τ)) (by rw [ov_ne (by decide), tu_ne (by decide), tu_ne (by decide)]; exact hn1) ?_
                  refine aw_imulN 176 (16) (nP τ) dX12_act_176 rfl rfl ?_
                  refine aw_iload8 177 dX12_act_177 ?_
                  refine aw_iaddN 179 (16 * (nP τ)) (x) dX12_act_179 rfl rfl ?_
                  refine aw_aload0 180 dX12_act_180 ?_
                  refine rw_ga 181 11 dX12_act_181 ckF_RX12_25_12 (by decide) (by decide) hW ?_
                  refine aw_iload8 184 dX12_act_184 ?_
                  refine rw_ld 186 11 (x) dX12_act_186 hW rfl (show x < 16 by omega) ?_
                  refine aw_topi (w := (dAs 7 0 (tih σ p) ls.length).2 11 x) (by rw [ov_ne (by decide), tu_ne (by decide), tu_ne (by decide)]) ?_
                  refine rw_st 187 4 ((16 * (nP τ)) + x) dX12_act_187 hW rfl (show 16 * nP τ + x < 192 by omega) (fun M hW => ?_)
                  replace hW := ro_obs hW (ov_up (i := 4) (lo := 16 * nP τ) (hi := 16 * nP τ + x) (f := fun b => (dAs 7 0 (tih σ p) ls.length).2 11 (b - 16 * nP τ)) (by omega) (show _ = (dAs 7 0 (tih σ p) ls.length).2 11 (16 * nP τ + x - 16 * nP τ) by rw [show 16 * nP τ + x - 16 * nP τ = x by omega]))
                  refine aw_iinc8 188 (nI (x + 1)) dX12_act_188 (nI_1 _) rfl ?_
                  refine aw_goto 191 159 dX12_act_191 (by decide) ?_
                  exact ih159 _ (by omega) (x + 1) M rfl (by omega) hW
            exact LP159 _ 0 M rfl (by omega) (ro_obs hW ov_nil.symm)
          · exact absurd h120 hf
        · exact absurd (hrel.1 u rfl).1 h104
      · exact absurd hl h25
    · first | exact absurd hip h5 | exact absurd hik h12

theorem wrt_obs {σ τ : TT} {p l : Nat} {k f h : Int32} (ho : Obs σ τ) : Obs (wrt σ p l k f h) (wrt τ p l k f h) := by
  unfold wrt
  rw [ho.slve p l h]
  exact obs_tu2 (obs_tu2 (lay_obs.trans ((obs_tu2 (obs_tu2 (obs_tu2 (obs_tu2 ho)))).trans lay_obs.symm)))
theorem wrt_ne' {τ : TT} {p l i : Nat} {k f h : Int32} (hi : i ≠ 5 ∧ i ≠ 16 ∧ i ≠ 17 ∧ i ≠ 18 ∧ i ≠ 19 ∧ i ≠ 20 ∧ i ≠ 21) : wrt τ p l k f h i = τ i := by
  unfold wrt
  rw [tu_ne (by omega), tu_ne (by omega), show lay _ p i = _ from ov_ne (by omega), tu_ne (by omega), tu_ne (by omega), tu_ne (by omega), tu_ne (by omega)]
/-- a line that says what was done -/
def tCh (τ : TT) (p l f : Nat) (h : Int32) (m : Nat) (A : Nat → Int32) : TT := tu (ov (tu (wrt τ p l 1 (nI f) h) 21 p (nI m)) 22 (25 * p) (25 * p + 5 * m) (fun b => A (b - 25 * p))) 0 0 0
def chP (τ : TT) (p l f : Nat) (h : Int32) (ls : List (Int32 × Nat)) (σ : TT) : Prop := ls.length ≤ 5 ∧ ∃ A : Nat → Int32, (∀ j, j < ls.length → ∃ a, ls[j]? = some a ∧ actR A (5 * j) a) ∧ Obs σ (tCh τ p l f h ls.length A)

def rmX12_change : Room := { frames := 6, cells := 0, slots := 0, locals := 138 }
set_option maxHeartbeats 4000000 in
set_option maxRecDepth 100000 in
theorem n_X12_change {τ : TT} {v u w h k l i n : Int32} (hw : WP τ) (hl : WL τ) (hno : ¬ ir v (nP τ) ∨ ¬ ir u (nP τ) ∨ ¬ ir w (nL τ) ∨ ¬ irg k 0 3) : RD mX12_change rmX12_change [.int v, .int u, .int w, .int h, .int k, .int l, .int i, .int n] τ (some (.int (-1))) (tu τ 0 0 0) := by
  intro M0 hW0
  refine am_of rfl rfl (ls := [some (.ref 25), some (.int v), some (.int u), some (.int w), some (.int h), some (.int k), some (.int l), some (.int i), some (.int n), none, none, none, none]) rfl ?_
  suffices HH : ∀ M, RO τ M0 M → AW mX12_change rmX12_change (fun r' M' => r' = (some (.int (-1))) ∧ RO (tu τ 0 0 0) M0 M') 0 [some (.ref 25), some (.int v), some (.int u), some (.int w), some (.int h), some (.int k), some (.int l), some (.int i), some (.int n), none, none, none, none] [] M 0 0 from HH M0 ⟨hW0, Off.rf M0⟩
  intro M hW
  refine aw_aload0 0 dX12_change_0 ?_
  refine aw_iload1 1 dX12_change_1 ?_
  refine rw_call1 2 dX12_change_2 (c_X12_noPicture hw) ckV_RX12_146 cd_X12_noPicture rfl hW rfl (Nat.le_of_ble_eq_true rfl) ⟨⟨by decide, by decide⟩, by decide, by decide⟩ rfl (fun M hW => ?_)
  refine aw_ifne_b 5 32 dX12_change_5 (by decide) (fun h5 => ?_) (fun h5 => ?_)
  · refine aw_aload0 32 dX12_change_32 ?_
    refine aw_icm1 33 dX12_change_33 ?_
    refine rw_call1 34 dX12_change_34 c_X12_refused ckV_RX12_114 cd_X12_refused rfl hW rfl (Nat.le_of_ble_eq_true rfl) ⟨⟨by decide, by decide⟩, by decide, by decide⟩ rfl (fun M hW => ?_)
    refine aw_iret 37 dX12_change_37 rfl (Nat.zero_le _) (Nat.zero_le _) ?_
    exact ⟨rfl, hW⟩
  · refine aw_aload0 8 dX12_change_8 ?_
    refine aw_iload2 9 dX12_change_9 ?_
    refine rw_call1 10 dX12_change_10 (c_X12_noPicture hw) ckV_RX12_146 cd_X12_noPicture rfl hW rfl (Nat.le_of_ble_eq_true rfl) ⟨⟨by decide, by decide⟩, by decide, by decide⟩ rfl (fun M hW => ?_)
    refine aw_ifne_b 13 32 dX12_change_13 (by decide) (fun h13 => ?_) (fun h13 => ?_)
    · refine aw_aload0 32 dX12_change_32 ?_
      refine aw_icm1 33 dX12_change_33 ?_
      refine rw_call1 34 dX12_change_34 c_X12_refused ckV_RX12_114 cd_X12_refused rfl hW rfl (Nat.le_of_ble_eq_true rfl) ⟨⟨by decide, by decide⟩, by decide, by decide⟩ rfl (fun M hW => ?_)
      refine aw_iret 37 dX12_change_37 rfl (Nat.zero_le _) (Nat.zero_le _) ?_
      exact ⟨rfl, hW⟩
    · refine aw_aload0 16 dX12_change_16 ?_
      refine aw_iload3 17 dX12_change_17 ?_
      refine rw_call1 18 dX12_change_18 (c_X12_noLens hl) ckV_RX12_216 cd_X12_noLens rfl hW rfl (Nat.le_of_ble_eq_true rfl) ⟨⟨by decide, by decide⟩, by decide, by decide⟩ rfl (fun M hW => ?_)
      refine aw_ifne_b 21 32 dX12_change_21 (by decide) (fun h21 => ?_) (fun h21 => ?_)
      · refine aw_aload0 32 dX12_change_32 ?_
        refine aw_icm1 33 dX12_change_33 ?_
        refine rw_call1 34 dX12_change_34 c_X12_refused ckV_RX12_114 cd_X12_refused rfl hW rfl (Nat.le_of_ble_eq_true rfl) ⟨⟨by decide, by decide⟩, by decide, by decide⟩ rfl (fun M hW => ?_)
        refine aw_iret 37 dX12_change_37 rfl (Nat.zero_le _) (Nat.zero_le _) ?_
        exact ⟨rfl, hW⟩
      · refine aw_iload5 24 dX12_change_24 ?_
        refine sd_call1 26 dX12_change_26 (c_X12_noSheet) ckS_RX12_110 cd_X12_noSheet rfl (Nat.le_of_ble_eq_true rfl) ⟨⟨by decide, by decide⟩, by decide, by decide⟩ rfl ?_
        refine aw_ifeq_b 29 38 dX12_change_29 (by decide) (fun h29 => ?_) (fun h29 => ?_)
        · exact absurd hno (fun q => q.elim h5 (fun q => q.elim h13 (fun q => q.elim h21 (fun z => h29 z))))
        · refine aw_aload0 32 dX12_change_32 ?_
          refine aw_icm1 33 dX12_change_33 ?_
          refine rw_call1 34 dX12_change_34 c_X12_refused ckV_RX12_114 cd_X12_refused rfl hW rfl (Nat.le_of_ble_eq_true rfl) ⟨⟨by decide, by decide⟩, by decide, by decide⟩ rfl (fun M hW => ?_)
          refine aw_iret 37 dX12_change_37 rfl (Nat.zero_le _) (Nat.zero_le _) ?_
          exact ⟨rfl, hW⟩

set_option maxHeartbeats 4000000 in
set_option maxRecDepth 100000 in
theorem n2_X12_change {τ : TT} {p f a k : Nat} {h l i n : Int32} (hw : WP τ) (hp : p < nP τ) (hf : f < nP τ) (hl : WL τ) (ha : a < nL τ) (hk : k < 4) (hno : ¬ irg h 0 999 ∨ ¬ irg l 0 2) : RD mX12_change rmX12_change [.int (nI p), .int (nI f), .int (nI a), .int h, .int (nI k), .int l, .int i, .int n] τ (some (.int (-2))) (tu τ 0 0 0) := by
  intro M0 hW0
  refine am_of rfl rfl (ls := [some (.ref 25), some (.int (nI p)), some (.int (nI f)), some (.int (nI a)), some (.int h), some (.int (nI k)), some (.int l), some (.int i), some (.int n), none, none, none, none]) rfl ?_
  suffices HH : ∀ M, RO τ M0 M → AW mX12_change rmX12_change (fun r' M' => r' = (some (.int (-2))) ∧ RO (tu τ 0 0 0) M0 M') 0 [some (.ref 25), some (.int (nI p)), some (.int (nI f)), some (.int (nI a)), some (.int h), some (.int (nI k)), some (.int l), some (.int i), some (.int n), none, none, none, none] [] M 0 0 from HH M0 ⟨hW0, Off.rf M0⟩
  intro M hW
  have hn12 := hw.1.1
  have hwd := (hw.2 p hp).1
  have hhg := (hw.2 p hp).2
  have hip := ir_nI (n := nP τ) (by omega) hp
  have hl6 := hl.1
  have hif := ir_nI (n := nP τ) (by omega) hf
  have hia := ir_nI (n := nL τ) (by omega) ha
  have hik : irg (nI k) 0 3 := irg_nI (b := 3) (by decide) (by omega)
  refine aw_aload0 0 dX12_change_0 ?_
  refine aw_iload1 1 dX12_change_1 ?_
  refine rw_call1 2 dX12_change_2 (c_X12_noPicture hw) ckV_RX12_146 cd_X12_noPicture rfl hW rfl (Nat.le_of_ble_eq_true rfl) ⟨⟨by decide, by decide⟩, by decide, by decide⟩ rfl (fun M hW => ?_)
  refine aw_ifne_b 5 32 dX12_change_5 (by decide) (fun h5 => ?_) (fun h5 => ?_)
  · first | exact absurd hip h5 | exact absurd hif h13 | exact absurd hia h21 | exact absurd hik h29
  · refine aw_aload0 8 dX12_change_8 ?_
    refine aw_iload2 9 dX12_change_9 ?_
    refine rw_call1 10 dX12_change_10 (c_X12_noPicture hw) ckV_RX12_146 cd_X12_noPicture rfl hW rfl (Nat.le_of_ble_eq_true rfl) ⟨⟨by decide, by decide⟩, by decide, by decide⟩ rfl (fun M hW => ?_)
    refine aw_ifne_b 13 32 dX12_change_13 (by decide) (fun h13 => ?_) (fun h13 => ?_)
    · first | exact absurd hip h5 | exact absurd hif h13 | exact absurd hia h21 | exact absurd hik h29
    · refine aw_aload0 16 dX12_change_16 ?_
      refine aw_iload3 17 dX12_change_17 ?_
      refine rw_call1 18 dX12_change_18 (c_X12_noLens hl) ckV_RX12_216 cd_X12_noLens rfl hW rfl (Nat.le_of_ble_eq_true rfl) ⟨⟨by decide, by decide⟩, by decide, by decide⟩ rfl (fun M hW => ?_)
      refine aw_ifne_b 21 32 dX12_change_21 (by decide) (fun h21 => ?_) (fun h21 => ?_)
      · first | exact absurd hip h5 | exact absurd hif h13 | exact absurd hia h21 | exact absurd hik h29
      · refine aw_iload5 24 dX12_change_24 ?_
        refine sd_call1 26 dX12_change_26 (c_X12_noSheet) ckS_RX12_110 cd_X12_noSheet rfl (Nat.le_of_ble_eq_true rfl) ⟨⟨by decide, by decide⟩, by decide, by decide⟩ rfl ?_
        refine aw_ifeq_b 29 38 dX12_change_29 (by decide) (fun h29 => ?_) (fun h29 => ?_)
        · refine aw_iload4 38 dX12_change_38 ?_
          refine sd_call1 40 dX12_change_40 (c_X12_isHour) ckS_RX12_224 cd_X12_isHour rfl (Nat.le_of_ble_eq_true rfl) ⟨⟨by decide, by decide⟩, by decide, by decide⟩ rfl ?_
          refine aw_ifeq_b 43 54 dX12_change_43 (by decide) (fun h43 => ?_) (fun h43 => ?_)
          · refine aw_aload0 54 dX12_change_54 ?_
            refine aw_bipush 55 (-2) dX12_change_55 (by decide) ?_
            refine rw_call1 57 dX12_change_57 c_X12_refused ckV_RX12_114 cd_X12_refused rfl hW rfl (Nat.le_of_ble_eq_true rfl) ⟨⟨by decide, by decide⟩, by decide, by decide⟩ rfl (fun M hW => ?_)
            refine aw_iret 60 dX12_change_60 rfl (Nat.zero_le _) (Nat.zero_le _) ?_
            exact ⟨rfl, hW⟩
          · refine aw_iload6 46 dX12_change_46 ?_
            refine sd_call1 48 dX12_change_48 (c_X12_isLane) ckS_RX12_119 cd_X12_isLane rfl (Nat.le_of_ble_eq_true rfl) ⟨⟨by decide, by decide⟩, by decide, by decide⟩ rfl ?_
            refine aw_ifne_b 51 61 dX12_change_51 (by decide) (fun h51 => ?_) (fun h51 => ?_)
            · exact absurd hno (fun q => q.elim (fun z => z h43) (fun z => z h51))
            · refine aw_aload0 54 dX12_change_54 ?_
              refine aw_bipush 55 (-2) dX12_change_55 (by decide) ?_
              refine rw_call1 57 dX12_change_57 c_X12_refused ckV_RX12_114 cd_X12_refused rfl hW rfl (Nat.le_of_ble_eq_true rfl) ⟨⟨by decide, by decide⟩, by decide, by decide⟩ rfl (fun M hW => ?_)
              refine aw_iret 60 dX12_change_60 rfl (Nat.zero_le _) (Nat.zero_le _) ?_
              exact ⟨rfl, hW⟩
        · first | exact absurd hip h5 | exact absurd hif h13 | exact absurd hia h21 | exact absurd hik h29

set_option maxHeartbeats 4000000 in
set_option maxRecDepth 100000 in
theorem n3_X12_change {τ : TT} {p f a k : Nat} {h l i n : Int32} (hw : WP τ) (hp : p < nP τ) (hf : f < nP τ) (hl : WL τ) (ha : a < nL τ) (hk : k < 4) (hh : irg h 0 999) (hln : irg l 0 2) (hb : ¬ bar τ k l i n.toInt64 = 0) : RD mX12_change rmX12_change [.int (nI p), .int (nI f), .int (nI a), .int h, .int (nI k), .int l, .int i, .int n] τ (some (.int (-10 - bar τ k l i n.toInt64))) (tu τ 0 0 (bar τ k l i n.toInt64)) := by
  intro M0 hW0
  refine am_of rfl rfl (ls := [some (.ref 25), some (.int (nI p)), some (.int (nI f)), some (.int (nI a)), some (.int h), some (.int (nI k)), some (.int l), some (.int i), some (.int n), none, none, none, none]) rfl ?_
  suffices HH : ∀ M, RO τ M0 M → AW mX12_change rmX12_change (fun r' M' => r' = (some (.int (-10 - bar τ k l i n.toInt64))) ∧ RO (tu τ 0 0 (bar τ k l i n.toInt64)) M0 M') 0 [some (.ref 25), some (.int (nI p)), some (.int (nI f)), some (.int (nI a)), some (.int h), some (.int (nI k)), some (.int l), some (.int i), some (.int n), none, none, none, none] [] M 0 0 from HH M0 ⟨hW0, Off.rf M0⟩
  intro M hW
  have hn12 := hw.1.1
  have hwd := (hw.2 p hp).1
  have hhg := (hw.2 p hp).2
  have hip := ir_nI (n := nP τ) (by omega) hp
  have hl6 := hl.1
  have hif := ir_nI (n := nP τ) (by omega) hf
  have hia := ir_nI (n := nL τ) (by omega) ha
  have hik : irg (nI k) 0 3 := irg_nI (b := 3) (by decide) (by omega)
  refine aw_aload0 0 dX12_change_0 ?_
  refine aw_iload1 1 dX12_change_1 ?_
  refine rw_call1 2 dX12_change_2 (c_X12_noPicture hw) ckV_RX12_146 cd_X12_noPicture rfl hW rfl (Nat.le_of_ble_eq_true rfl) ⟨⟨by decide, by decide⟩, by decide, by decide⟩ rfl (fun M hW => ?_)
  refine aw_ifne_b 5 32 dX12_change_5 (by decide) (fun h5 => ?_) (fun h5 => ?_)
  · first | exact absurd hip h5 | exact absurd hif h13 | exact absurd hia h21 | exact absurd hik h29
  · refine aw_aload0 8 dX12_change_8 ?_
    refine aw_iload2 9 dX12_change_9 ?_
    refine rw_call1 10 dX12_change_10 (c_X12_noPicture hw) ckV_RX12_146 cd_X12_noPicture rfl hW rfl (Nat.le_of_ble_eq_true rfl) ⟨⟨by decide, by decide⟩, by decide, by decide⟩ rfl (fun M hW => ?_)
    refine aw_ifne_b 13 32 dX12_change_13 (by decide) (fun h13 => ?_) (fun h13 => ?_)
    · first | exact absurd hip h5 | exact absurd hif h13 | exact absurd hia h21 | exact absurd hik h29
    · refine aw_aload0 16 dX12_change_16 ?_
      refine aw_iload3 17 dX12_change_17 ?_
      refine rw_call1 18 dX12_change_18 (c_X12_noLens hl) ckV_RX12_216 cd_X12_noLens rfl hW rfl (Nat.le_of_ble_eq_true rfl) ⟨⟨by decide, by decide⟩, by decide, by decide⟩ rfl (fun M hW => ?_)
      refine aw_ifne_b 21 32 dX12_change_21 (by decide) (fun h21 => ?_) (fun h21 => ?_)
      · first | exact absurd hip h5 | exact absurd hif h13 | exact absurd hia h21 | exact absurd hik h29
      · refine aw_iload5 24 dX12_change_24 ?_
        refine sd_call1 26 dX12_change_26 (c_X12_noSheet) ckS_RX12_110 cd_X12_noSheet rfl (Nat.le_of_ble_eq_true rfl) ⟨⟨by decide, by decide⟩, by decide, by decide⟩ rfl ?_
        refine aw_ifeq_b 29 38 dX12_change_29 (by decide) (fun h29 => ?_) (fun h29 => ?_)
        · refine aw_iload4 38 dX12_change_38 ?_
          refine sd_call1 40 dX12_change_40 (c_X12_isHour) ckS_RX12_224 cd_X12_isHour rfl (Nat.le_of_ble_eq_true rfl) ⟨⟨by decide, by decide⟩, by decide, by decide⟩ rfl ?_
          refine aw_ifeq_b 43 54 dX12_change_43 (by decide) (fun h43 => ?_) (fun h43 => ?_)
          · first | exact absurd hh h43 | exact absurd hln h51
          · refine aw_iload6 46 dX12_change_46 ?_
            refine sd_call1 48 dX12_change_48 (c_X12_isLane) ckS_RX12_119 cd_X12_isLane rfl (Nat.le_of_ble_eq_true rfl) ⟨⟨by decide, by decide⟩, by decide, by decide⟩ rfl ?_
            refine aw_ifne_b 51 61 dX12_change_51 (by decide) (fun h51 => ?_) (fun h51 => ?_)
            · refine aw_aload0 61 dX12_change_61 ?_
              refine aw_iload5 62 dX12_change_62 ?_
              refine aw_iload6 64 dX12_change_64 ?_
              refine aw_iload7 66 dX12_change_66 ?_
              refine aw_iload8 68 dX12_change_68 ?_
              refine aw_i2l 70 dX12_change_70 ?_
              refine rw_call1 71 dX12_change_71 (c_barN hk hb) ckV_RX12_122 cd_X12_barred rfl hW rfl (Nat.le_of_ble_eq_true rfl) ⟨⟨by decide, by decide⟩, by decide, by decide⟩ rfl (fun M hW => ?_)
              refine aw_istore9 74 dX12_change_74 rfl ?_
              refine aw_iload9 76 dX12_change_76 ?_
              refine aw_if_ge 78 84 dX12_change_78 (by decide) (fun h78 => ?_) (fun h78 => ?_)
              · exact absurd h78 (bar_neg hb)
              · refine aw_iload9 81 dX12_change_81 ?_
                refine aw_iret 83 dX12_change_83 rfl (Nat.zero_le _) (Nat.zero_le _) ?_
                exact ⟨rfl, hW⟩
            · first | exact absurd hh h43 | exact absurd hln h51
        · first | exact absurd hip h5 | exact absurd hif h13 | exact absurd hia h21 | exact absurd hik h29

set_option maxHeartbeats 4000000 in
set_option maxRecDepth 100000 in
theorem n4_X12_change {τ : TT} {p f a k i n e : Nat} {h l : Int32} (hw : WP τ) (hp : p < nP τ) (hf : f < nP τ) (hl : WL τ) (ha : a < nL τ) (hk : k < 4) (hh : irg h 0 999) (hln : irg l 0 2) (hs : WS τ) (h0 : ¬ τ 28 k < 0) (hll : τ 29 k = l) (hi : i + n ≤ ssz τ k) (hq : rdA (fun j => τ 30 (60 * k + i + j)) n 5 0 [] = .inl e) : RE mX12_change rmX12_change [.int (nI p), .int (nI f), .int (nI a), .int h, .int (nI k), .int l, .int (nI i), .int (nI n)] τ (some (.int (-100 - nI e))) (tu τ 0 0 0) := by
  intro M0 hW0
  refine am_of rfl rfl (ls := [some (.ref 25), some (.int (nI p)), some (.int (nI f)), some (.int (nI a)), some (.int h), some (.int (nI k)), some (.int l), some (.int (nI i)), some (.int (nI n)), none, none, none, none]) rfl ?_
  suffices HH : ∀ M, RO τ M0 M → AW mX12_change rmX12_change (fun r' M' => r' = (some (.int (-100 - nI e))) ∧ ∃ σ, RO σ M0 M' ∧ Obs σ (tu τ 0 0 0)) 0 [some (.ref 25), some (.int (nI p)), some (.int (nI f)), some (.int (nI a)), some (.int h), some (.int (nI k)), some (.int l), some (.int (nI i)), some (.int (nI n)), none, none, none, none] [] M 0 0 from HH M0 ⟨hW0, Off.rf M0⟩
  intro M hW
  have hn12 := hw.1.1
  have hwd := (hw.2 p hp).1
  have hhg := (hw.2 p hp).2
  have hip := ir_nI (n := nP τ) (by omega) hp
  have hl6 := hl.1
  have hif := ir_nI (n := nP τ) (by omega) hf
  have hia := ir_nI (n := nL τ) (by omega) ha
  have hik : irg (nI k) 0 3 := irg_nI (b := 3) (by decide) (by omega)
  have hsk := hs.ok hk h0
  have hb : bar τ k l (nI i) (nI n).toInt64 = 0 := bar_0 hs hk h0 hll hi
  have hra := c_X12_readActs (τ := τ) (b := 60 * k + i) (n := n) (by omega) (by omega)
  rw [hq] at hra
  have hfp := rdA_pos 5 0 [] e (by omega) hq
  refine aw_aload0 0 dX12_change_0 ?_
  refine aw_iload1 1 dX12_change_1 ?_
  refine rw_call1 2 dX12_change_2 (c_X12_noPicture hw) ckV_RX12_146 cd_X12_noPicture rfl hW rfl (Nat.le_of_ble_eq_true rfl) ⟨⟨by decide, by decide⟩, by decide, by decide⟩ rfl (fun M hW => ?_)
  refine aw_ifne_b 5 32 dX12_change_5 (by decide) (fun h5 => ?_) (fun h5 => ?_)
  · first | exact absurd hip h5 | exact absurd hif h13 | exact absurd hia h21 | exact absurd hik h29
  · refine aw_aload0 8 dX12_change_8 ?_
    refine aw_iload2 9 dX12_change_9 ?_
    refine rw_call1 10 dX12_change_10 (c_X12_noPicture hw) ckV_RX12_146 cd_X12_noPicture rfl hW rfl (Nat.le_of_ble_eq_true rfl) ⟨⟨by decide, by decide⟩, by decide, by decide⟩ rfl (fun M hW => ?_)
    refine aw_ifne_b 13 32 dX12_change_13 (by decide) (fun h13 => ?_) (fun h13 => ?_)
    · first | exact absurd hip h5 | exact absurd hif h13 | exact absurd hia h21 | exact absurd hik h29
    · refine aw_aload0 16 dX12_change_16 ?_
      refine aw_iload3 17 dX12_change_17 ?_
      refine rw_call1 18 dX12_change_18 (c_X12_noLens hl) ckV_RX12_216 cd_X12_noLens rfl hW rfl (Nat.le_of_ble_eq_true rfl) ⟨⟨by decide, by decide⟩, by decide, by decide⟩ rfl (fun M hW => ?_)
      refine aw_ifne_b 21 32 dX12_change_21 (by decide) (fun h21 => ?_) (fun h21 => ?_)
      · first | exact absurd hip h5 | exact absurd hif h13 | exact absurd hia h21 | exact absurd hik h29
      · refine aw_iload5 24 dX12_change_24 ?_
        refine sd_call1 26 dX12_change_26 (c_X12_noSheet) ckS_RX12_110 cd_X12_noSheet rfl (Nat.le_of_ble_eq_true rfl) ⟨⟨by decide, by decide⟩, by decide, by decide⟩ rfl ?_
        refine aw_ifeq_b 29 38 dX12_change_29 (by decide) (fun h29 => ?_) (fun h29 => ?_)
        · refine aw_iload4 38 dX12_change_38 ?_
          refine sd_call1 40 dX12_change_40 (c_X12_isHour) ckS_RX12_224 cd_X12_isHour rfl (Nat.le_of_ble_eq_true rfl) ⟨⟨by decide, by decide⟩, by decide, by decide⟩ rfl ?_
          refine aw_ifeq_b 43 54 dX12_change_43 (by decide) (fun h43 => ?_) (fun h43 => ?_)
          · first | exact absurd hh h43 | exact absurd hln h51
          · refine aw_iload6 46 dX12_change_46 ?_
            refine sd_call1 48 dX12_change_48 (c_X12_isLane) ckS_RX12_119 cd_X12_isLane rfl (Nat.le_of_ble_eq_true rfl) ⟨⟨by decide, by decide⟩, by decide, by decide⟩ rfl ?_
            refine aw_ifne_b 51 61 dX12_change_51 (by decide) (fun h51 => ?_) (fun h51 => ?_)
            · refine aw_aload0 61 dX12_change_61 ?_
              refine aw_iload5 62 dX12_change_62 ?_
              refine aw_iload6 64 dX12_change_64 ?_
              refine aw_iload7 66 dX12_change_66 ?_
              refine aw_iload8 68 dX12_change_68 ?_
              refine aw_i2l 70 dX12_change_70 ?_
              refine rw_call1 71 dX12_change_71 (c_bar0 hk hb) ckV_RX12_122 cd_X12_barred rfl hW rfl (Nat.le_of_ble_eq_true rfl) ⟨⟨by decide, by decide⟩, by decide, by decide⟩ rfl (fun M hW => ?_)
              refine aw_istore9 74 dX12_change_74 rfl ?_
              refine aw_iload9 76 dX12_change_76 ?_
              refine aw_if_geN 78 84 (0) dX12_change_78 (by decide) rfl (by omega) ?_
              refine aw_aload0 84 dX12_change_84 ?_
              refine aw_bipush 85 60 dX12_change_85 (by decide) ?_
              refine aw_iload5 87 dX12_change_87 ?_
              refine aw_imulN 89 (60) (k) dX12_change_89 rfl rfl ?_
              refine aw_iload7 90 dX12_change_90 ?_
              refine aw_iaddN 92 (60 * k) (i) dX12_change_92 rfl rfl ?_
              refine aw_iload8 93 dX12_change_93 ?_
              refine rp_call1 95 dX12_change_95 hra ckV_RX12_201 cd_X12_readActs rfl hW rfl (Nat.le_of_ble_eq_true rfl) ⟨⟨by decide, by decide⟩, by decide, by decide⟩ rfl (fun σ M hpσ hW => ?_)
              refine aw_topi (w := nI e) rfl ?_
              refine aw_istore10 98 dX12_change_98 rfl ?_
              refine aw_iload10 100 dX12_change_100 ?_
              refine aw_if_ltN 102 115 (e) dX12_change_102 (by decide) rfl (by omega) ?_
              refine aw_aload0 105 dX12_change_105 ?_
              refine aw_bipush 106 (-100) dX12_change_106 (by decide) ?_
              refine aw_iload10 108 dX12_change_108 ?_
              refine aw_isub 110 dX12_change_110 ?_
              refine rw_call1 111 dX12_change_111 c_X12_refused ckV_RX12_114 cd_X12_refused rfl hW rfl (Nat.le_of_ble_eq_true rfl) ⟨⟨by decide, by decide⟩, by decide, by decide⟩ rfl (fun M hW => ?_)
              refine aw_iret 114 dX12_change_114 rfl (Nat.zero_le _) (Nat.zero_le _) ?_
              exact ⟨rfl, _, hW, obs_tu2 hpσ.1⟩
            · first | exact absurd hh h43 | exact absurd hln h51
        · first | exact absurd hip h5 | exact absurd hif h13 | exact absurd hia h21 | exact absurd hik h29

set_option maxHeartbeats 4000000 in
set_option maxRecDepth 100000 in
theorem n5_X12_change {τ : TT} {p f a k i n : Nat} {h l : Int32} {ls : List (Int32 × Nat)} (hw : WP τ) (hp : p < nP τ) (hf : f < nP τ) (hl : WL τ) (ha : a < nL τ) (hk : k < 4) (hh : irg h 0 999) (hln : irg l 0 2) (hs : WS τ) (h0 : ¬ τ 28 k < 0) (hll : τ 29 k = l) (hi : i + n ≤ ssz τ k) (hq : rdA (fun j => τ 30 (60 * k + i + j)) n 5 0 [] = .inr ls) (hst : ¬ τ 16 p < 0 ∨ p ≤ f) : RE mX12_change rmX12_change [.int (nI p), .int (nI f), .int (nI a), .int h, .int (nI k), .int l, .int (nI i), .int (nI n)] τ (some (.int (-3))) (tu τ 0 0 0) := by
  intro M0 hW0
  refine am_of rfl rfl (ls := [some (.ref 25), some (.int (nI p)), some (.int (nI f)), some (.int (nI a)), some (.int h), some (.int (nI k)), some (.int l), some (.int (nI i)), some (.int (nI n)), none, none, none, none]) rfl ?_
  suffices HH : ∀ M, RO τ M0 M → AW mX12_change rmX12_change (fun r' M' => r' = (some (.int (-3))) ∧ ∃ σ, RO σ M0 M' ∧ Obs σ (tu τ 0 0 0)) 0 [some (.ref 25), some (.int (nI p)), some (.int (nI f)), some (.int (nI a)), some (.int h), some (.int (nI k)), some (.int l), some (.int (nI i)), some (.int (nI n)), none, none, none, none] [] M 0 0 from HH M0 ⟨hW0, Off.rf M0⟩
  intro M hW
  have hn12 := hw.1.1
  have hwd := (hw.2 p hp).1
  have hhg := (hw.2 p hp).2
  have hip := ir_nI (n := nP τ) (by omega) hp
  have hl6 := hl.1
  have hif := ir_nI (n := nP τ) (by omega) hf
  have hia := ir_nI (n := nL τ) (by omega) ha
  have hik : irg (nI k) 0 3 := irg_nI (b := 3) (by decide) (by omega)
  have hsk := hs.ok hk h0
  have hb : bar τ k l (nI i) (nI n).toInt64 = 0 := bar_0 hs hk h0 hll hi
  have hra := c_X12_readActs (τ := τ) (b := 60 * k + i) (n := n) (by omega) (by omega)
  rw [hq] at hra
  refine aw_aload0 0 dX12_change_0 ?_
  refine aw_iload1 1 dX12_change_1 ?_
  refine rw_call1 2 dX12_change_2 (c_X12_noPicture hw) ckV_RX12_146 cd_X12_noPicture rfl hW rfl (Nat.le_of_ble_eq_true rfl) ⟨⟨by decide, by decide⟩, by decide, by decide⟩ rfl (fun M hW => ?_)
  refine aw_ifne_b 5 32 dX12_change_5 (by decide) (fun h5 => ?_) (fun h5 => ?_)
  · first | exact absurd hip h5 | exact absurd hif h13 | exact absurd hia h21 | exact absurd hik h29
  · refine aw_aload0 8 dX12_change_8 ?_
    refine aw_iload2 9 dX12_change_9 ?_
    refine rw_call1 10 dX12_change_10 (c_X12_noPicture hw) ckV_RX12_146 cd_X12_noPicture rfl hW rfl (Nat.le_of_ble_eq_true rfl) ⟨⟨by decide, by decide⟩, by decide, by decide⟩ rfl (fun M hW => ?_)
    refine aw_ifne_b 13 32 dX12_change_13 (by decide) (fun h13 => ?_) (fun h13 => ?_)
    · first | exact absurd hip h5 | exact absurd hif h13 | exact absurd hia h21 | exact absurd hik h29
    · refine aw_aload0 16 dX12_change_16 ?_
      refine aw_iload3 17 dX12_change_17 ?_
      refine rw_call1 18 dX12_change_18 (c_X12_noLens hl) ckV_RX12_216 cd_X12_noLens rfl hW rfl (Nat.le_of_ble_eq_true rfl) ⟨⟨by decide, by decide⟩, by decide, by decide⟩ rfl (fun M hW => ?_)
      refine aw_ifne_b 21 32 dX12_change_21 (by decide) (fun h21 => ?_) (fun h21 => ?_)
      · first | exact absurd hip h5 | exact absurd hif h13 | exact absurd hia h21 | exact absurd hik h29
      · refine aw_iload5 24 dX12_change_24 ?_
        refine sd_call1 26 dX12_change_26 (c_X12_noSheet) ckS_RX12_110 cd_X12_noSheet rfl (Nat.le_of_ble_eq_true rfl) ⟨⟨by decide, by decide⟩, by decide, by decide⟩ rfl ?_
        refine aw_ifeq_b 29 38 dX12_change_29 (by decide) (fun h29 => ?_) (fun h29 => ?_)
        · refine aw_iload4 38 dX12_change_38 ?_
          refine sd_call1 40 dX12_change_40 (c_X12_isHour) ckS_RX12_224 cd_X12_isHour rfl (Nat.le_of_ble_eq_true rfl) ⟨⟨by decide, by decide⟩, by decide, by decide⟩ rfl ?_
          refine aw_ifeq_b 43 54 dX12_change_43 (by decide) (fun h43 => ?_) (fun h43 => ?_)
          · first | exact absurd hh h43 | exact absurd hln h51
          · refine aw_iload6 46 dX12_change_46 ?_
            refine sd_call1 48 dX12_change_48 (c_X12_isLane) ckS_RX12_119 cd_X12_isLane rfl (Nat.le_of_ble_eq_true rfl) ⟨⟨by decide, by decide⟩, by decide, by decide⟩ rfl ?_
            refine aw_ifne_b 51 61 dX12_change_51 (by decide) (fun h51 => ?_) (fun h51 => ?_)
            · refine aw_aload0 61 dX12_change_61 ?_
              refine aw_iload5 62 dX12_change_62 ?_
              refine aw_iload6 64 dX12_change_64 ?_
              refine aw_iload7 66 dX12_change_66 ?_
              refine aw_iload8 68 dX12_change_68 ?_
              refine aw_i2l 70 dX12_change_70 ?_
              refine rw_call1 71 dX12_change_71 (c_bar0 hk hb) ckV_RX12_122 cd_X12_barred rfl hW rfl (Nat.le_of_ble_eq_true rfl) ⟨⟨by decide, by decide⟩, by decide, by decide⟩ rfl (fun M hW => ?_)
              refine aw_istore9 74 dX12_change_74 rfl ?_
              refine aw_iload9 76 dX12_change_76 ?_
              refine aw_if_geN 78 84 (0) dX12_change_78 (by decide) rfl (by omega) ?_
              refine aw_aload0 84 dX12_change_84 ?_
              refine aw_bipush 85 60 dX12_change_85 (by decide) ?_
              refine aw_iload5 87 dX12_change_87 ?_
              refine aw_imulN 89 (60) (k) dX12_change_89 rfl rfl ?_
              refine aw_iload7 90 dX12_change_90 ?_
              refine aw_iaddN 92 (60 * k) (i) dX12_change_92 rfl rfl ?_
              refine aw_iload8 93 dX12_change_93 ?_
              refine rp_call1 95 dX12_change_95 hra ckV_RX12_201 cd_X12_readActs rfl hW rfl (Nat.le_of_ble_eq_true rfl) ⟨⟨by decide, by decide⟩, by decide, by decide⟩ rfl (fun σ M hpσ hW => ?_)
              have h16 := hpσ.1 16 (by decide)
              refine aw_istore10 98 dX12_change_98 rfl ?_
              refine aw_iload10 100 dX12_change_100 ?_
              refine aw_if_lt 102 115 dX12_change_102 (by decide) (fun _ => ?_) (fun h => absurd (show raR (.inr ls) < 0 from (show (-1 : Int32) < 0 by decide)) h)
              refine aw_aload0 115 dX12_change_115 ?_
              refine aw_iload1 116 dX12_change_116 ?_
              refine rw_call1 117 dX12_change_117 (c_X12_noLine (τ := σ) (by omega)) ckV_RX12_227 cd_X12_noLine rfl hW rfl (Nat.le_of_ble_eq_true rfl) ⟨⟨by decide, by decide⟩, by decide, by decide⟩ rfl (fun M hW => ?_)
              refine aw_ifeq_b 120 128 dX12_change_120 (by decide) (fun h120 => ?_) (fun h120 => ?_)
              · refine aw_aload0 128 dX12_change_128 ?_
                refine aw_bipush 129 (-3) dX12_change_129 (by decide) ?_
                refine rw_call1 131 dX12_change_131 c_X12_refused ckV_RX12_114 cd_X12_refused rfl hW rfl (Nat.le_of_ble_eq_true rfl) ⟨⟨by decide, by decide⟩, by decide, by decide⟩ rfl (fun M hW => ?_)
                refine aw_iret 134 dX12_change_134 rfl (Nat.zero_le _) (Nat.zero_le _) ?_
                exact ⟨rfl, _, hW, obs_tu2 hpσ.1⟩
              · refine aw_iload2 123 dX12_change_123 ?_
                refine aw_iload1 124 dX12_change_124 ?_
                refine aw_icmp_ltN 125 135 (f) (p) dX12_change_125 (by decide) rfl rfl (by omega) (by omega) (fun h125 => ?_) (fun h125 => ?_)
                · exact absurd hst (fun q => q.elim (fun z => z (by rw [← h16]; exact h120)) (fun z => by omega))
                · refine aw_aload0 128 dX12_change_128 ?_
                  refine aw_bipush 129 (-3) dX12_change_129 (by decide) ?_
                  refine rw_call1 131 dX12_change_131 c_X12_refused ckV_RX12_114 cd_X12_refused rfl hW rfl (Nat.le_of_ble_eq_true rfl) ⟨⟨by decide, by decide⟩, by decide, by decide⟩ rfl (fun M hW => ?_)
                  refine aw_iret 134 dX12_change_134 rfl (Nat.zero_le _) (Nat.zero_le _) ?_
                  exact ⟨rfl, _, hW, obs_tu2 hpσ.1⟩
            · first | exact absurd hh h43 | exact absurd hln h51
        · first | exact absurd hip h5 | exact absurd hif h13 | exact absurd hia h21 | exact absurd hik h29

set_option maxHeartbeats 4000000 in
set_option maxRecDepth 100000 in
theorem c_X12_change {τ : TT} {p f a k i n : Nat} {h l : Int32} {ls : List (Int32 × Nat)} (hw : WP τ) (hp : p < nP τ) (hf : f < nP τ) (hl : WL τ) (ha : a < nL τ) (hk : k < 4) (hh : irg h 0 999) (hln : irg l 0 2) (hs : WS τ) (h0 : ¬ τ 28 k < 0) (hll : τ 29 k = l) (hi : i + n ≤ ssz τ k) (hq : rdA (fun j => τ 30 (60 * k + i + j)) n 5 0 [] = .inr ls) (hno : τ 16 p < 0) (hfp : f < p) : RP mX12_change rmX12_change [.int (nI p), .int (nI f), .int (nI a), .int h, .int (nI k), .int l, .int (nI i), .int (nI n)] τ (some (.int (slv τ p a h))) (chP τ p a f h ls) := by
  intro M0 hW0
  refine am_of rfl rfl (ls := [some (.ref 25), some (.int (nI p)), some (.int (nI f)), some (.int (nI a)), some (.int h), some (.int (nI k)), some (.int l), some (.int (nI i)), some (.int (nI n)), none, none, none, none]) rfl ?_
  suffices HH : ∀ M, RO τ M0 M → AW mX12_change rmX12_change (fun r' M' => r' = (some (.int (slv τ p a h))) ∧ ∃ σ, RO σ M0 M' ∧ (chP τ p a f h ls) σ) 0 [some (.ref 25), some (.int (nI p)), some (.int (nI f)), some (.int (nI a)), some (.int h), some (.int (nI k)), some (.int l), some (.int (nI i)), some (.int (nI n)), none, none, none, none] [] M 0 0 from HH M0 ⟨hW0, Off.rf M0⟩
  intro M hW
  have hn12 := hw.1.1
  have hwd := (hw.2 p hp).1
  have hhg := (hw.2 p hp).2
  have hip := ir_nI (n := nP τ) (by omega) hp
  have hl6 := hl.1
  have hif := ir_nI (n := nP τ) (by omega) hf
  have hia := ir_nI (n := nL τ) (by omega) ha
  have hik : irg (nI k) 0 3 := irg_nI (b := 3) (by decide) (by omega)
  have hsk := hs.ok hk h0
  have hb : bar τ k l (nI i) (nI n).toInt64 = 0 := bar_0 hs hk h0 hll hi
  have hra := c_X12_readActs (τ := τ) (b := 60 * k + i) (n := n) (by omega) (by omega)
  rw [hq] at hra
  refine aw_aload0 0 dX12_change_0 ?_
  refine aw_iload1 1 dX12_change_1 ?_
  refine rw_call1 2 dX12_change_2 (c_X12_noPicture hw) ckV_RX12_146 cd_X12_noPicture rfl hW rfl (Nat.le_of_ble_eq_true rfl) ⟨⟨by decide, by decide⟩, by decide, by decide⟩ rfl (fun M hW => ?_)
  refine aw_ifne_b 5 32 dX12_change_5 (by decide) (fun h5 => ?_) (fun h5 => ?_)
  · first | exact absurd hip h5 | exact absurd hif h13 | exact absurd hia h21 | exact absurd hik h29
  · refine aw_aload0 8 dX12_change_8 ?_
    refine aw_iload2 9 dX12_change_9 ?_
    refine rw_call1 10 dX12_change_10 (c_X12_noPicture hw) ckV_RX12_146 cd_X12_noPicture rfl hW rfl (Nat.le_of_ble_eq_true rfl) ⟨⟨by decide, by decide⟩, by decide, by decide⟩ rfl (fun M hW => ?_)
    refine aw_ifne_b 13 32 dX12_change_13 (by decide) (fun h13 => ?_) (fun h13 => ?_)
    · first | exact absurd hip h5 | exact absurd hif h13 | exact absurd hia h21 | exact absurd hik h29
    · refine aw_aload0 16 dX12_change_16 ?_
      refine aw_iload3 17 dX12_change_17 ?_
      refine rw_call1 18 dX12_change_18 (c_X12_noLens hl) ckV_RX12_216 cd_X12_noLens rfl hW rfl (Nat.le_of_ble_eq_true rfl) ⟨⟨by decide, by decide⟩, by decide, by decide⟩ rfl (fun M hW => ?_)
      refine aw_ifne_b 21 32 dX12_change_21 (by decide) (fun h21 => ?_) (fun h21 => ?_)
      · first | exact absurd hip h5 | exact absurd hif h13 | exact absurd hia h21 | exact absurd hik h29
      · refine aw_iload5 24 dX12_change_24 ?_
        refine sd_call1 26 dX12_change_26 (c_X12_noSheet) ckS_RX12_110 cd_X12_noSheet rfl (Nat.le_of_ble_eq_true rfl) ⟨⟨by decide, by decide⟩, by decide, by decide⟩ rfl ?_
        refine aw_ifeq_b 29 38 dX12_change_29 (by decide) (fun h29 => ?_) (fun h29 => ?_)
        · refine aw_iload4 38 dX12_change_38 ?_
          refine sd_call1 40 dX12_change_40 (c_X12_isHour) ckS_RX12_224 cd_X12_isHour rfl (Nat.le_of_ble_eq_true rfl) ⟨⟨by decide, by decide⟩, by decide, by decide⟩ rfl ?_
          refine aw_ifeq_b 43 54 dX12_change_43 (by decide) (fun h43 => ?_) (fun h43 => ?_)
          · first | exact absurd hh h43 | exact absurd hln h51
          · refine aw_iload6 46 dX12_change_46 ?_
            refine sd_call1 48 dX12_change_48 (c_X12_isLane) ckS_RX12_119 cd_X12_isLane rfl (Nat.le_of_ble_eq_true rfl) ⟨⟨by decide, by decide⟩, by decide, by decide⟩ rfl ?_
            refine aw_ifne_b 51 61 dX12_change_51 (by decide) (fun h51 => ?_) (fun h51 => ?_)
            · refine aw_aload0 61 dX12_change_61 ?_
              refine aw_iload5 62 dX12_change_62 ?_
              refine aw_iload6 64 dX12_change_64 ?_
              refine aw_iload7 66 dX12_change_66 ?_
              refine aw_iload8 68 dX12_change_68 ?_
              refine aw_i2l 70 dX12_change_70 ?_
              refine rw_call1 71 dX12_change_71 (c_bar0 hk hb) ckV_RX12_122 cd_X12_barred rfl hW rfl (Nat.le_of_ble_eq_true rfl) ⟨⟨by decide, by decide⟩, by decide, by decide⟩ rfl (fun M hW => ?_)
              refine aw_istore9 74 dX12_change_74 rfl ?_
              refine aw_iload9 76 dX12_change_76 ?_
              refine aw_if_geN 78 84 (0) dX12_change_78 (by decide) rfl (by omega) ?_
              refine aw_aload0 84 dX12_change_84 ?_
              refine aw_bipush 85 60 dX12_change_85 (by decide) ?_
              refine aw_iload5 87 dX12_change_87 ?_
              refine aw_imulN 89 (60) (k) dX12_change_89 rfl rfl ?_
              refine aw_iload7 90 dX12_change_90 ?_
              refine aw_iaddN 92 (60 * k) (i) dX12_change_92 rfl rfl ?_
              refine aw_iload8 93 dX12_change_93 ?_
              refine rp_call1 95 dX12_change_95 hra ckV_RX12_201 cd_X12_readActs rfl hW rfl (Nat.le_of_ble_eq_true rfl) ⟨⟨by decide, by decide⟩, by decide, by decide⟩ rfl (fun σ M hpσ hW => ?_)
              have h16 := hpσ.1 16 (by decide)
              refine aw_istore10 98 dX12_change_98 rfl ?_
              refine aw_iload10 100 dX12_change_100 ?_
              refine aw_if_lt 102 115 dX12_change_102 (by decide) (fun _ => ?_) (fun h => absurd (show raR (.inr ls) < 0 from (show (-1 : Int32) < 0 by decide)) h)
              refine aw_aload0 115 dX12_change_115 ?_
              refine aw_iload1 116 dX12_change_116 ?_
              refine rw_call1 117 dX12_change_117 (c_X12_noLine (τ := σ) (by omega)) ckV_RX12_227 cd_X12_noLine rfl hW rfl (Nat.le_of_ble_eq_true rfl) ⟨⟨by decide, by decide⟩, by decide, by decide⟩ rfl (fun M hW => ?_)
              refine aw_ifeq_b 120 128 dX12_change_120 (by decide) (fun h120 => ?_) (fun h120 => ?_)
              · first | exact absurd hno (by rw [← h16]; exact h120) | exact absurd h125 (by omega)
              · refine aw_iload2 123 dX12_change_123 ?_
                refine aw_iload1 124 dX12_change_124 ?_
                refine aw_icmp_ltN 125 135 (f) (p) dX12_change_125 (by decide) rfl rfl (by omega) (by omega) (fun h125 => ?_) (fun h125 => ?_)
                · have hpσ2 := hpσ.2 ls rfl
                  have hw1 := hpσ.1.WPe hw
                  have hp1 : p < nP σ := by rw [hpσ.1.nPe]; exact hp
                  refine aw_aload0 135 dX12_change_135 ?_
                  refine aw_iload1 136 dX12_change_136 ?_
                  refine aw_ic1 137 dX12_change_137 ?_
                  refine aw_iload2 138 dX12_change_138 ?_
                  refine aw_iload3 139 dX12_change_139 ?_
                  refine aw_iload4 140 dX12_change_140 ?_
                  refine rw_call1 142 dX12_change_142 (c_X12_write (τ := σ) (l := a) hw1 hp1 (by omega)) ckV_RX12_230 cd_X12_write rfl hW rfl (Nat.le_of_ble_eq_true rfl) ⟨⟨by decide, by decide⟩, by decide, by decide⟩ rfl (fun M hW => ?_)
                  refine aw_topi (w := slv τ p a h) (hpσ.1.slve p a h) ?_
                  refine aw_istore11 145 dX12_change_145 rfl ?_
                  refine aw_aload0 147 dX12_change_147 ?_
                  refine rw_ga 148 21 dX12_change_148 ckF_RX12_52_12 (by decide) (by decide) hW ?_
                  refine aw_iload1 151 dX12_change_151 ?_
                  refine aw_aload0 152 dX12_change_152 ?_
                  refine rw_gi 153 6 dX12_change_153 ckF_RX12_166_12 (by decide) rfl hW ?_
                  refine aw_topi (w := nI ls.length) (by rw [wrt_ne' (by decide)]; exact hpσ2.1) ?_
                  refine rw_st 156 21 (p) dX12_change_156 hW rfl (show p < 12 by omega) (fun M hW => ?_)
                  refine aw_ic0 157 dX12_change_157 ?_
                  refine aw_istore12 158 dX12_change_158 rfl ?_
                  have LP160 : ∀ (dd : Nat) (x : Nat) (M : Mem), 5 * ls.length - x = dd → (x ≤ 5 * ls.length) → (RO (ov (tu (wrt σ p a 1 (nI f) h) 21 p (nI ls.length)) 22 (25 * p) (25 * p + x) (fun b => σ 7 (b - 25 * p))) M0 M) → AW mX12_change rmX12_change (fun r' M' => r' = (some (.int (slv τ p a h))) ∧ ∃ σ, RO σ M0 M' ∧ (chP τ p a f h ls) σ) 160 [some (.ref 25), some (.int (nI p)), some (.int (nI f)), some (.int (nI a)), some (.int h), some (.int (nI k)), some (.int l), some (.int (nI i)), some (.int (nI n)), some (.int 0), some (.int (raR (.inr ls))), some (.int (slv τ p a h)), some (.int (nI x))] [] M 0 0 := by
                    intro dd
                    induction dd using Nat.strongRecOn with
                    | _ dd ih160 =>
                      intro x M hdd hx hW
                      have hl5 := hpσ2.2.1
                      refine aw_iload12 160 dX12_change_160 ?_
                      refine aw_ic5 162 dX12_change_162 ?_
                      refine aw_aload0 163 dX12_change_163 ?_
                      refine rw_gi 164 6 dX12_change_164 ckF_RX12_166_12 (by decide) rfl hW ?_
                      refine aw_topi (w := nI ls.length) (by rw [ov_ne (by decide), tu_ne (by decide), wrt_ne' (by decide)]; exact hpσ2.1) ?_
                      refine aw_imulN 167 (5) (ls.length) dX12_change_167 rfl rfl ?_
                      refine aw_icmp_geN 168 196 (x) (5 * (ls.length)) dX12_change_168 (by decide) rfl rfl (by omega) (by omega) (fun h168 => ?_) (fun h168 => ?_)
                      · have he : x = 5 * ls.length := by omega
                        subst he
                        refine aw_aload0 196 dX12_change_196 ?_
                        refine aw_iload11 197 dX12_change_197 ?_
                        refine rw_call1 199 dX12_change_199 c_X12_refused ckV_RX12_114 cd_X12_refused rfl hW rfl (Nat.le_of_ble_eq_true rfl) ⟨⟨by decide, by decide⟩, by decide, by decide⟩ rfl (fun M hW => ?_)
                        refine aw_iret 202 dX12_change_202 rfl (Nat.zero_le _) (Nat.zero_le _) ?_
                        exact ⟨rfl, _, hW, hpσ2.2.1, σ 7, hpσ2.2.2, obs_tu2 (obs_ov2 (obs_tu2 (wrt_obs hpσ.1)) (fun _ _ _ => rfl))⟩
                      · refine aw_aload0 171 dX12_change_171 ?_
                        refine rw_ga 172 22 dX12_change_172 ckF_RX12_55_12 (by decide) (by decide) hW ?_
                        refine aw_bipush 175 25 dX12_change_175 (by decide) ?_
                        refine aw_iload1 177 dX12_change_177 ?_
                        refine aw_imulN 178 (25) (p) dX12_change_178 rfl rfl ?_
                        refine aw_iload12 179 dX12_change_179 ?_
                        refine aw_iaddN 181 (25 * p) (x) dX12_change_181 rfl rfl ?_
                        refine aw_aload0 182 dX12_change_182 ?_
                        refine rw_ga 183 7 dX12_change_183 ckF_RX12_22_12 (by decide) (by decide) hW ?_
                        refine aw_iload12 186 dX12_change_186 ?_
                        refine rw_ld 188 7 (x) dX12_change_188 hW rfl (show x < 25 by omega) ?_
                        refine aw_topi (w := σ 7 x) (by rw [ov_ne (by decide), tu_ne (by decide), wrt_ne' (by decide)]) ?_
                        refine rw_st 189 22 ((25 * p) + x) dX12_change_189 hW rfl (show 25 * p + x < 300 by omega) (fun M hW => ?_)
                        replace hW := ro_obs hW (ov_up (i := 22) (lo := 25 * p) (hi := 25 * p + x) (f := fun b => σ 7 (b - 25 * p)) (by omega) (show _ = σ 7 (25 * p + x - 25 * p) by rw [show 25 * p + x - 25 * p = x by omega]))
                        refine aw_iinc12 190 (nI (x + 1)) dX12_change_190 (nI_1 _) rfl ?_
                        refine aw_goto 193 160 dX12_change_193 (by decide) ?_
                        exact ih160 _ (by omega) (x + 1) M rfl (by omega) hW
                  exact LP160 _ 0 M rfl (by omega) (ro_obs hW ov_nil.symm)
                · first | exact absurd hno (by rw [← h16]; exact h120) | exact absurd h125 (by omega)
            · first | exact absurd hh h43 | exact absurd hln h51
        · first | exact absurd hip h5 | exact absurd hif h13 | exact absurd hia h21 | exact absurd hik h29

