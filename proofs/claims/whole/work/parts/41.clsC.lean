/-! the class: the way, whole, looks, shares (gen/clsC.py) -/
def clW (τ : TT) (k : Int32) : Nat → Option Nat → Int32 → Int32
  | 0, _, n => if k = -1 then n else -9
  | _ + 1, none, n => if k = -1 then n else -9
  | d + 1, some x, n => if n = k then nI x else clW τ k d (nx τ x) (n + 1)
theorem clW_n {τ : TT} {k n : Int32} {d : Nat} : clW τ k d none n = if k = -1 then n else -9 := by cases d <;> rfl
theorem clW_s {τ : TT} {k n : Int32} {d x : Nat} : clW τ k (d + 1) (some x) n = if n = k then nI x else clW τ k d (nx τ x) (n + 1) := rfl
theorem clW_1 {τ : TT} : ∀ (d : Nat) (xo : Option Nat) (m : Nat) (fd : Int32), m + d ≤ 100 → clW τ (-1) d xo (nI m) = (wyO τ (-1) d xo (nI m) fd).1 := by
  intro d
  induction d with
  | zero => intro xo m fd _; exact if_pos rfl
  | succ d ih =>
    intro xo m fd h
    cases xo with
    | none => exact if_pos rfl
    | some x =>
      rw [clW_s, if_neg (nI_ne1 (by omega)), nI_1]
      show _ = (wyO τ (-1) d (nx τ x) (nI m + 1) _).1
      rw [nI_1]
      exact ih _ _ _ (by omega)
theorem wy_far {τ : TT} {j : Nat} (hj : j ≤ 100) : ∀ (d : Nat) (xo : Option Nat) (m : Nat) (fd : Int32), j < m → m + d ≤ 200 → (wyO τ (nI j) d xo (nI m) fd).2 = fd := by
  intro d
  induction d with
  | zero => intro xo m fd _ _; rfl
  | succ d ih =>
    intro xo m fd h h2
    cases xo with
    | none => rfl
    | some x =>
      show (wyO τ (nI j) d (nx τ x) (nI m + 1) (if nI m = nI j then nI x else fd)).2 = fd
      rw [if_neg (by rw [nI_eq (by omega) (by omega)]; omega), nI_1]
      exact ih _ _ _ (by omega) (by omega)
theorem clW_2 {τ : TT} {j : Nat} (hj : j ≤ 100) : ∀ (d : Nat) (xo : Option Nat) (m : Nat), m ≤ j → m + d ≤ 200 → clW τ (nI j) d xo (nI m) = (wyO τ (nI j) d xo (nI m) (-9)).2 := by
  intro d
  induction d with
  | zero => intro xo m _ _; exact if_neg (nI_ne1 (by omega))
  | succ d ih =>
    intro xo m h h2
    cases xo with
    | none => exact if_neg (nI_ne1 (by omega))
    | some x =>
      rw [clW_s]
      show _ = (wyO τ (nI j) d (nx τ x) (nI m + 1) (if nI m = nI j then nI x else -9)).2
      rw [nI_1]
      by_cases e : m = j
      · subst e
        rw [if_pos rfl, if_pos rfl, wy_far hj _ _ _ _ (by omega) (by omega)]
      · have e2 : ¬ nI m = nI j := by rw [nI_eq (by omega) (by omega)]; exact e
        rw [if_neg e2, if_neg e2]
        exact ih _ _ (by omega) (by omega)
theorem sWy_c {τ : TT} {p : Nat} {k : Int32} (hk : irg k (-1) 11) : sWy τ p k = clW τ k 13 (some p) (nI 0) := by
  unfold sWy
  by_cases c : k < 0
  · have e : k = -1 := by
      rw [Int32.lt_iff_toInt_lt, show (0 : Int32).toInt = 0 by decide] at c
      exact Int32.toInt_inj.mp (by rw [show (-1 : Int32).toInt = -1 by decide]; have := hk.1; omega)
    subst e
    rw [if_pos c, clW_1 13 (some p) 0 (-9) (by omega)]
    rfl
  · obtain ⟨j, j1, rfl⟩ := nI_of c
    have j2 := hk.2
    rw [nI_toInt j1] at j2
    rw [if_neg c, clW_2 (by omega) 13 (some p) 0 (by omega) (by omega)]
    rfl

def rmX11_way : Room := { frames := 2, cells := 0, slots := 0, locals := 43 }
set_option maxHeartbeats 4000000 in
set_option maxRecDepth 100000 in
theorem n_X11_way {M0 : Mem} {τ : TT} {α : AT} {v w : Int32} (hC : CW τ α M0) (hno : ¬ ir v (nP τ)) : CK mX11_way rmX11_way [.int v, .int w] M0 (.int (-1)) (τ) := by
  refine am_of rfl rfl (ls := [some (.ref 2), some (.int v), some (.int w), none, none, none]) rfl ?_
  suffices HH : ∀ M, (CW τ α M) → (Kr M0 M) → AW mX11_way rmX11_way (fun r' M' => r' = (some (.int (-1))) ∧ (fun M2 => Kr M0 M2 ∧ ∃ α2, CW (τ) α2 M2) M') 0 [some (.ref 2), some (.int v), some (.int w), none, none, none] [] M 0 0 from HH M0 hC (Kr.rf _)
  intro M hC hR
  refine aw_aload0 0 dX11_way_0 ?_
  refine aw_iload1 1 dX11_way_1 ?_
  refine cr_v1 2 dX11_way_2 (n_X11_pictureAt hC hno) ckV_RX11_106 cd_X11_pictureAt hC.xo.1 vc11 rfl rfl (Nat.le_of_ble_eq_true rfl) ⟨⟨by decide, by decide⟩, by decide, by decide⟩ rfl ?_
  refine aw_astoreN3 5 dX11_way_5 rfl ?_
  refine aw_aloadN3 6 dX11_way_6 ?_
  refine aw_ifnullN 7 20 dX11_way_7 (by decide) ?_
  refine aw_icm1 20 dX11_way_20 ?_
  refine aw_iret 21 dX11_way_21 rfl (Nat.zero_le _) (Nat.zero_le _) ?_
  exact ⟨rfl, hR, α, hC⟩

set_option maxHeartbeats 4000000 in
set_option maxRecDepth 100000 in
theorem n2_X11_way {M0 : Mem} {τ : TT} {α : AT} {p : Nat} {w : Int32} (hC : CW τ α M0) (hp : p < nP τ) (hw : ¬ irg w (-1) 11) : CK mX11_way rmX11_way [.int (nI p), .int w] M0 (.int (-1)) (τ) := by
  refine am_of rfl rfl (ls := [some (.ref 2), some (.int (nI p)), some (.int w), none, none, none]) rfl ?_
  suffices HH : ∀ M, (CW τ α M) → (Kr M0 M) → AW mX11_way rmX11_way (fun r' M' => r' = (some (.int (-1))) ∧ (fun M2 => Kr M0 M2 ∧ ∃ α2, CW (τ) α2 M2) M') 0 [some (.ref 2), some (.int (nI p)), some (.int w), none, none, none] [] M 0 0 from HH M0 hC (Kr.rf _)
  intro M hC hR
  refine aw_aload0 0 dX11_way_0 ?_
  refine aw_iload1 1 dX11_way_1 ?_
  refine cr_v1 2 dX11_way_2 (c_X11_pictureAt hC hp) ckV_RX11_106 cd_X11_pictureAt hC.xo.1 vc11 rfl rfl (Nat.le_of_ble_eq_true rfl) ⟨⟨by decide, by decide⟩, by decide, by decide⟩ rfl ?_
  refine aw_astore3 5 dX11_way_5 rfl ?_
  refine aw_aload3 6 dX11_way_6 ?_
  refine aw_ifnull 7 dX11_way_7 ?_
  refine aw_iload2 10 dX11_way_10 ?_
  refine aw_icm1 11 dX11_way_11 ?_
  refine aw_bipush 12 11 dX11_way_12 (by decide) ?_
  refine cr_s1 14 dX11_way_14 (cr_sd (c_isInZ (-1) (11) (by decide) (by decide))) ckS_RX11_72 cd_X11_isIn rfl (Nat.le_of_ble_eq_true rfl) ⟨⟨by decide, by decide⟩, by decide, by decide⟩ rfl ?_
  refine aw_ifne_b 17 22 dX11_way_17 (by decide) (fun h17 => ?_) (fun h17 => ?_)
  · exact absurd h17 hw
  · refine aw_icm1 20 dX11_way_20 ?_
    refine aw_iret 21 dX11_way_21 rfl (Nat.zero_le _) (Nat.zero_le _) ?_
    exact ⟨rfl, hR, α, hC⟩

set_option maxHeartbeats 4000000 in
set_option maxRecDepth 100000 in
theorem c_X11_way {M0 : Mem} {τ : TT} {α : AT} {p : Nat} {k : Int32} (hC : CW τ α M0) (hp : p < nP τ) (hk : irg k (-1) 11) : CK mX11_way rmX11_way [.int (nI p), .int k] M0 (.int (sWy τ p k)) (τ) := by
  refine am_of rfl rfl (ls := [some (.ref 2), some (.int (nI p)), some (.int k), none, none, none]) rfl ?_
  suffices HH : ∀ M, (CW τ α M) → (Kr M0 M) → AW mX11_way rmX11_way (fun r' M' => r' = (some (.int (sWy τ p k))) ∧ (fun M2 => Kr M0 M2 ∧ ∃ α2, CW (τ) α2 M2) M') 0 [some (.ref 2), some (.int (nI p)), some (.int k), none, none, none] [] M 0 0 from HH M0 hC (Kr.rf _)
  intro M hC hR
  have h12 := hC.wp.1.1
  have hq0 := sWy_c (τ := τ) (p := p) hk
  refine aw_aload0 0 dX11_way_0 ?_
  refine aw_iload1 1 dX11_way_1 ?_
  refine cr_v1 2 dX11_way_2 (c_X11_pictureAt hC hp) ckV_RX11_106 cd_X11_pictureAt hC.xo.1 vc11 rfl rfl (Nat.le_of_ble_eq_true rfl) ⟨⟨by decide, by decide⟩, by decide, by decide⟩ rfl ?_
  refine aw_astore3 5 dX11_way_5 rfl ?_
  refine aw_aload3 6 dX11_way_6 ?_
  refine aw_ifnull 7 dX11_way_7 ?_
  refine aw_iload2 10 dX11_way_10 ?_
  refine aw_icm1 11 dX11_way_11 ?_
  refine aw_bipush 12 11 dX11_way_12 (by decide) ?_
  refine cr_s1 14 dX11_way_14 (cr_sd (c_isInZ (-1) (11) (by decide) (by decide))) ckS_RX11_72 cd_X11_isIn rfl (Nat.le_of_ble_eq_true rfl) ⟨⟨by decide, by decide⟩, by decide, by decide⟩ rfl ?_
  refine aw_ifne_b 17 22 dX11_way_17 (by decide) (fun h17 => ?_) (fun h17 => ?_)
  · refine aw_ic0 22 dX11_way_22 ?_
    refine aw_istore4 23 dX11_way_23 rfl ?_
    refine aw_aload3 25 dX11_way_25 ?_
    refine aw_astore5 26 dX11_way_26 rfl ?_
    have LP28 : ∀ (dd : Nat) (xo : Option Nat) (d m : Nat), xo.elim 0 (· + 1) = dd → (∀ x, xo = some x → x < nP τ) → (xo.elim 0 (· + 1) ≤ d) → (m ≤ 100 - d) → (d ≤ 13) → (sWy τ p k = clW τ k d xo (nI m)) → AW mX11_way rmX11_way (fun r' M' => r' = (some (.int (sWy τ p k))) ∧ (fun M2 => Kr M0 M2 ∧ ∃ α2, CW (τ) α2 M2) M') 28 [some (.ref 2), some (.int (nI p)), some (.int k), some (.ref (α 0 p)), some (.int (nI m)), some (xo.elim .null (fun x => .ref (α 0 x)))] [] M 0 0 := by
      intro dd
      induction dd using Nat.strongRecOn with
      | _ dd ih28 =>
        intro xo d m hdd hxo hd hmm hd13 hq
        cases xo with
        | none =>
          rw [clW_n] at hq
          refine aw_aloadN5 28 dX11_way_28 ?_
          refine aw_ifnullN 30 58 dX11_way_30 (by decide) ?_
          refine aw_iload2 58 dX11_way_58 ?_
          refine aw_icm1 59 dX11_way_59 ?_
          refine aw_icmp_ne 60 68 dX11_way_60 (by decide) (fun h60 => ?_) (fun h60 => ?_)
          · rw [if_neg h60] at hq
            refine aw_bipush 68 (-9) dX11_way_68 (by decide) ?_
            refine aw_iret 70 dX11_way_70 rfl (Nat.zero_le _) (Nat.zero_le _) ?_
            exact ⟨by rw [hq], hR, α, hC⟩
          · rw [if_pos h60] at hq
            refine aw_iload4 63 dX11_way_63 ?_
            refine aw_goto 65 70 dX11_way_65 (by decide) ?_
            refine aw_iret 70 dX11_way_70 rfl (Nat.zero_le _) (Nat.zero_le _) ?_
            exact ⟨by rw [hq], hR, α, hC⟩
        | some x =>
          have hx : x < nP τ := hxo x rfl
          obtain ⟨d, rfl⟩ : ∃ e, d = e + 1 := ⟨d - 1, by have : x + 1 ≤ d := hd; omega⟩
          have hd3 : x ≤ d := by have : x + 1 ≤ d + 1 := hd; omega
          rw [clW_s] at hq
          refine aw_aload5 28 dX11_way_28 ?_
          refine aw_ifnull 30 dX11_way_30 ?_
          refine aw_iload4 33 dX11_way_33 ?_
          refine aw_iload2 35 dX11_way_35 ?_
          refine aw_icmp_ne 36 45 dX11_way_36 (by decide) (fun h36 => ?_) (fun h36 => ?_)
          · rw [if_neg h36, nI_1] at hq
            refine aw_iinc4 45 (nI (m + 1)) dX11_way_45 (nI_1 _) rfl ?_
            refine aw_aload5 48 dX11_way_48 ?_
            cases hnx : nx τ x with
            | none =>
              refine cr_v1 50 dX11_way_50 (c_orN hC hx hnx) ckV_RX11_225 cd_X3_origin (hC.pc x hx).2.2.2.1 vc3 rfl rfl (Nat.le_of_ble_eq_true rfl) ⟨⟨by decide, by decide⟩, by decide, by decide⟩ rfl ?_
              refine aw_astoreN5 53 dX11_way_53 rfl ?_
              refine aw_goto 55 28 dX11_way_55 (by decide) ?_
              exact ih28 0 (by rw [← hdd]; exact Nat.succ_pos _) none d (m + 1) rfl (fun _ q => by cases q) (Nat.zero_le _) (by omega) (by omega) (by rw [hq, hnx])
            | some y =>
              have hyx := nx_lt hC hx hnx
              refine cr_v1 50 dX11_way_50 (c_orS hC hx hnx) ckV_RX11_225 cd_X3_origin (hC.pc x hx).2.2.2.1 vc3 rfl rfl (Nat.le_of_ble_eq_true rfl) ⟨⟨by decide, by decide⟩, by decide, by decide⟩ rfl ?_
              refine aw_astore5 53 dX11_way_53 rfl ?_
              refine aw_goto 55 28 dX11_way_55 (by decide) ?_
              exact ih28 (y + 1) (by rw [← hdd]; exact Nat.succ_lt_succ hyx) (some y) d (m + 1) rfl (fun _ q => by cases q; omega) (by show y + 1 ≤ d; omega) (by omega) (by omega) (by rw [hq, hnx])
          · rw [if_pos h36] at hq
            refine aw_aload5 39 dX11_way_39 ?_
            refine aw_get 41 dX11_way_41 ckF_RX11_103_3 (hC.pc x hx).2.2.2.1 (hC.pc x hx).2.2.2.2.1 ?_
            refine aw_iret 44 dX11_way_44 rfl (Nat.zero_le _) (Nat.zero_le _) ?_
            exact ⟨by rw [hq], hR, α, hC⟩
    exact LP28 (p + 1) (some p) 13 0 rfl (fun _ q => by cases q; exact hp) (by show p + 1 ≤ 13; omega) (by omega) (by omega) hq0
  · exact absurd hk h17

def wbo (b : Int32) : Int32 := if ¬ b = 0 then 1 else 0
theorem whO_n {τ : TT} {d : Nat} {b : Int32} : whO τ d none b = b := by cases d <;> rfl
theorem whO_s {τ : TT} {d x : Nat} {b : Int32} : whO τ (d + 1) (some x) b = whO τ d (nx τ x) (if ¬ b = 0 ∧ ¬ τ 16 x = 2 then 1 else 0) := rfl
theorem whO_0 {τ : TT} : ∀ (d : Nat) (xo : Option Nat), whO τ d xo 0 = 0 := by
  intro d
  induction d with
  | zero => intro xo; rfl
  | succ d ih =>
    intro xo
    cases xo with
    | none => rfl
    | some x => rw [whO_s, if_neg (fun q => q.1 rfl)]; exact ih _
theorem dbO_cs {τ : TT} {α : AT} {M : Mem} (hC : CW τ α M) : ∀ (d : Nat) (xo : Option Nat), (∀ x, xo = some x → x < nP τ) → dbO τ d xo = -9 ∨ ∃ x, x < nP τ ∧ dbO τ d xo = nI x := by
  intro d
  induction d with
  | zero => intro xo _; exact Or.inl rfl
  | succ d ih =>
    intro xo h
    cases xo with
    | none => exact Or.inl rfl
    | some x =>
      rw [dbO_s]
      by_cases c : τ 16 x < 0 ∨ 1 < spk τ x
      · rw [if_pos c]; exact Or.inr ⟨x, h x rfl, rfl⟩
      · rw [if_neg c]
        exact ih _ (fun y hy => by have := nx_lt hC (h x rfl) hy; have := h x rfl; omega)
theorem dbt_neg {τ : TT} {α : AT} {M : Mem} {p : Nat} (hC : CW τ α M) (hp : p < nP τ) : dbt τ p < 0 ↔ dbt τ p = -9 := by
  have h12 := hC.wp.1.1
  rcases dbO_cs hC 13 (some p) (fun _ q => by cases q; exact hp) with h | ⟨x, h1, h2⟩
  · have h : dbt τ p = -9 := h
    rw [h]; exact ⟨fun _ => rfl, fun _ => by decide⟩
  · have h2 : dbt τ p = nI x := h2
    rw [h2]
    refine ⟨fun q => absurd q (nI_pos (by omega)), fun q => ?_⟩
    have := congrArg Int32.toInt q
    rw [nI_toInt (by omega), show (-9 : Int32).toInt = -9 by decide] at this
    omega

def rmX11_whole : Room := { frames := 7, cells := 0, slots := 0, locals := 182 }
set_option maxHeartbeats 4000000 in
set_option maxRecDepth 100000 in
theorem n_X11_whole {M0 : Mem} {τ : TT} {α : AT} {v : Int32} (hC : CW τ α M0) (hno : ¬ ir v (nP τ)) : CK mX11_whole rmX11_whole [.int v] M0 (.int (-1)) (τ) := by
  refine am_of rfl rfl (ls := [some (.ref 2), some (.int v), none, none]) rfl ?_
  suffices HH : ∀ M, (CW τ α M) → (Kr M0 M) → AW mX11_whole rmX11_whole (fun r' M' => r' = (some (.int (-1))) ∧ (fun M2 => Kr M0 M2 ∧ ∃ α2, CW (τ) α2 M2) M') 0 [some (.ref 2), some (.int v), none, none] [] M 0 0 from HH M0 hC (Kr.rf _)
  intro M hC hR
  refine aw_aload0 0 dX11_whole_0 ?_
  refine aw_iload1 1 dX11_whole_1 ?_
  refine cr_v1 2 dX11_whole_2 (n_X11_pictureAt hC hno) ckV_RX11_106 cd_X11_pictureAt hC.xo.1 vc11 rfl rfl (Nat.le_of_ble_eq_true rfl) ⟨⟨by decide, by decide⟩, by decide, by decide⟩ rfl ?_
  refine aw_astoreN2 5 dX11_whole_5 rfl ?_
  refine aw_aloadN2 6 dX11_whole_6 ?_
  refine aw_ifnonnullN 7 dX11_whole_7 ?_
  refine aw_icm1 10 dX11_whole_10 ?_
  refine aw_iret 11 dX11_whole_11 rfl (Nat.zero_le _) (Nat.zero_le _) ?_
  exact ⟨rfl, hR, α, hC⟩

set_option maxHeartbeats 4000000 in
set_option maxRecDepth 100000 in
theorem c_X11_whole {M0 : Mem} {τ : TT} {α : AT} {p : Nat} (hC : CW τ α M0) (hp : p < nP τ) : CK mX11_whole rmX11_whole [.int (nI p)] M0 (.int (sWh τ p)) (τ) := by
  refine am_of rfl rfl (ls := [some (.ref 2), some (.int (nI p)), none, none]) rfl ?_
  suffices HH : ∀ M, (CW τ α M) → (Kr M0 M) → AW mX11_whole rmX11_whole (fun r' M' => r' = (some (.int (sWh τ p))) ∧ (fun M2 => Kr M0 M2 ∧ ∃ α2, CW (τ) α2 M2) M') 0 [some (.ref 2), some (.int (nI p)), none, none] [] M 0 0 from HH M0 hC (Kr.rf _)
  intro M hC hR
  have h12 := hC.wp.1.1
  have hng := dbt_neg hC hp
  refine aw_aload0 0 dX11_whole_0 ?_
  refine aw_iload1 1 dX11_whole_1 ?_
  refine cr_v1 2 dX11_whole_2 (c_X11_pictureAt hC hp) ckV_RX11_106 cd_X11_pictureAt hC.xo.1 vc11 rfl rfl (Nat.le_of_ble_eq_true rfl) ⟨⟨by decide, by decide⟩, by decide, by decide⟩ rfl ?_
  refine aw_astore2 5 dX11_whole_5 rfl ?_
  refine aw_aload2 6 dX11_whole_6 ?_
  refine aw_ifnonnull 7 12 dX11_whole_7 (by decide) ?_
  refine aw_aload0 12 dX11_whole_12 ?_
  refine aw_aload2 13 dX11_whole_13 ?_
  refine ap_v1 14 dX11_whole_14 (c_X11_firstDoubt hC hp) ckV_RX11_226 cd_X11_firstDoubt hC.xo.1 vc11 rfl rfl (Nat.le_of_ble_eq_true rfl) ⟨⟨by decide, by decide⟩, by decide, by decide⟩ rfl (fun M hv => ?_)
  replace hR := hR.trans (hv.1.kr hC.m1 (fun b q => by unfold SC at q; omega))
  replace hC := hv.2
  refine aw_bipush 17 (-9) dX11_whole_17 (by decide) ?_
  refine aw_icmp_eq 19 24 dX11_whole_19 (by decide) (fun h19 => ?_) (fun h19 => ?_)
  · have hq0 : sWh τ p = wbo (whO τ 13 (some p) 1) := by unfold sWh; rw [if_pos (hng.mpr h19)]; rfl
    refine aw_aload2 24 dX11_whole_24 ?_
    refine aw_astore3 25 dX11_whole_25 rfl ?_
    have LP26 : ∀ (dd : Nat) (xo : Option Nat) (d : Nat), xo.elim 0 (· + 1) = dd → (∀ x, xo = some x → x < nP τ) → (xo.elim 0 (· + 1) ≤ d) → (sWh τ p = wbo (whO τ d xo 1)) → AW mX11_whole rmX11_whole (fun r' M' => r' = (some (.int (sWh τ p))) ∧ (fun M2 => Kr M0 M2 ∧ ∃ α2, CW (τ) α2 M2) M') 26 [some (.ref 2), some (.int (nI p)), some (.ref (α 0 p)), some (xo.elim .null (fun x => .ref (α 0 x)))] [] M 0 0 := by
      intro dd
      induction dd using Nat.strongRecOn with
      | _ dd ih26 =>
        intro xo d hdd hxo hd hq
        cases xo with
        | none =>
          rw [whO_n] at hq
          have hq : sWh τ p = 1 := hq
          refine aw_aloadN3 26 dX11_whole_26 ?_
          refine aw_ifnullN 27 58 dX11_whole_27 (by decide) ?_
          refine aw_ic1 58 dX11_whole_58 ?_
          refine aw_iret 59 dX11_whole_59 rfl (Nat.zero_le _) (Nat.zero_le _) ?_
          exact ⟨by rw [hq], hR, α, hC⟩
        | some x =>
          have hx : x < nP τ := hxo x rfl
          obtain ⟨d, rfl⟩ : ∃ e, d = e + 1 := ⟨d - 1, by have : x + 1 ≤ d := hd; omega⟩
          have hd3 : x ≤ d := by have : x + 1 ≤ d + 1 := hd; omega
          rw [whO_s] at hq
          refine aw_aload3 26 dX11_whole_26 ?_
          refine aw_ifnull 27 dX11_whole_27 ?_
          refine aw_aload3 30 dX11_whole_30 ?_
          by_cases hno : τ 16 x < 0
          · have hx2 : ¬ τ 16 x = 2 := fun q => absurd hno (by rw [q]; decide)
            rw [if_pos ⟨by decide, hx2⟩] at hq
            refine aw_get 31 dX11_whole_31 ckF_RX11_147_3 (hC.pc x hx).2.2.2.1 ((hC.pc x hx).2.2.2.2.2.2.2.2.1.trans (if_pos hno)) ?_
            refine aw_ifnullN 34 50 dX11_whole_34 (by decide) ?_
            refine aw_aload3 50 dX11_whole_50 ?_
            cases hnx : nx τ x with
            | none =>
              refine cr_v1 51 dX11_whole_51 (c_orN hC hx hnx) ckV_RX11_225 cd_X3_origin (hC.pc x hx).2.2.2.1 vc3 rfl rfl (Nat.le_of_ble_eq_true rfl) ⟨⟨by decide, by decide⟩, by decide, by decide⟩ rfl ?_
              refine aw_astoreN3 54 dX11_whole_54 rfl ?_
              refine aw_goto 55 26 dX11_whole_55 (by decide) ?_
              exact ih26 0 (by rw [← hdd]; exact Nat.succ_pos _) none d rfl (fun _ q => by cases q) (Nat.zero_le _) (by rw [hq, hnx])
            | some y =>
              have hyx := nx_lt hC hx hnx
              refine cr_v1 51 dX11_whole_51 (c_orS hC hx hnx) ckV_RX11_225 cd_X3_origin (hC.pc x hx).2.2.2.1 vc3 rfl rfl (Nat.le_of_ble_eq_true rfl) ⟨⟨by decide, by decide⟩, by decide, by decide⟩ rfl ?_
              refine aw_astore3 54 dX11_whole_54 rfl ?_
              refine aw_goto 55 26 dX11_whole_55 (by decide) ?_
              exact ih26 (y + 1) (by rw [← hdd]; exact Nat.succ_lt_succ hyx) (some y) d rfl (fun _ q => by cases q; omega) (by show y + 1 ≤ d; omega) (by rw [hq, hnx])
          refine aw_get 31 dX11_whole_31 ckF_RX11_147_3 (hC.pc x hx).2.2.2.1 ((hC.pc x hx).2.2.2.2.2.2.2.2.1.trans (if_neg hno)) ?_
          rcases hC.kd hx hno with hk | hk | hk
          · have hN := (hC.nc x hx hno).k0 hk
            rw [if_pos ⟨by decide, by rw [hk]; decide⟩] at hq
            refine aw_ifnull 34 dX11_whole_34 ?_
            refine aw_aload3 37 dX11_whole_37 ?_
            refine aw_get 38 dX11_whole_38 ckF_RX11_147_3 (hC.pc x hx).2.2.2.1 ((hC.pc x hx).2.2.2.2.2.2.2.2.1.trans (if_neg hno)) ?_
            refine cr_u1 (rr := (RX7, TX7, 3)) (owner := RX7) (y := ⟨RX7, "kind", "()I"⟩) 41 dX11_whole_41 c_X7_kind ckU_RX11_199_7 cd_X7_kind cd_X7_kind hN.2.1 vc7 rfl (Nat.le_of_ble_eq_true rfl) ⟨⟨by decide, by decide⟩, by decide, by decide⟩ rfl ?_
            refine aw_ic2 44 dX11_whole_44 ?_
            refine aw_icmp_neN 45 50 (0) (2) dX11_whole_45 (by decide) rfl rfl (by decide) (by decide) (fun _ => ?_) (fun h => absurd h (by decide))
            refine aw_aload3 50 dX11_whole_50 ?_
            cases hnx : nx τ x with
            | none =>
              refine cr_v1 51 dX11_whole_51 (c_orN hC hx hnx) ckV_RX11_225 cd_X3_origin (hC.pc x hx).2.2.2.1 vc3 rfl rfl (Nat.le_of_ble_eq_true rfl) ⟨⟨by decide, by decide⟩, by decide, by decide⟩ rfl ?_
              refine aw_astoreN3 54 dX11_whole_54 rfl ?_
              refine aw_goto 55 26 dX11_whole_55 (by decide) ?_
              exact ih26 0 (by rw [← hdd]; exact Nat.succ_pos _) none d rfl (fun _ q => by cases q) (Nat.zero_le _) (by rw [hq, hnx])
            | some y =>
              have hyx := nx_lt hC hx hnx
              refine cr_v1 51 dX11_whole_51 (c_orS hC hx hnx) ckV_RX11_225 cd_X3_origin (hC.pc x hx).2.2.2.1 vc3 rfl rfl (Nat.le_of_ble_eq_true rfl) ⟨⟨by decide, by decide⟩, by decide, by decide⟩ rfl ?_
              refine aw_astore3 54 dX11_whole_54 rfl ?_
              refine aw_goto 55 26 dX11_whole_55 (by decide) ?_
              exact ih26 (y + 1) (by rw [← hdd]; exact Nat.succ_lt_succ hyx) (some y) d rfl (fun _ q => by cases q; omega) (by show y + 1 ≤ d; omega) (by rw [hq, hnx])
          · have hN := (hC.nc x hx hno).k1 hk
            rw [if_pos ⟨by decide, by rw [hk]; decide⟩] at hq
            refine aw_ifnull 34 dX11_whole_34 ?_
            refine aw_aload3 37 dX11_whole_37 ?_
            refine aw_get 38 dX11_whole_38 ckF_RX11_147_3 (hC.pc x hx).2.2.2.1 ((hC.pc x hx).2.2.2.2.2.2.2.2.1.trans (if_neg hno)) ?_
            refine cr_u1 (rr := (RX0, TX0, 5)) (owner := RX7) (y := ⟨RX7, "kind", "()I"⟩) 41 dX11_whole_41 c_X0_kind ckU_RX11_199_0 cd_X0_kind cd_X7_kind hN.2.1 vc0 rfl (Nat.le_of_ble_eq_true rfl) ⟨⟨by decide, by decide⟩, by decide, by decide⟩ rfl ?_
            refine aw_ic2 44 dX11_whole_44 ?_
            refine aw_icmp_neN 45 50 (1) (2) dX11_whole_45 (by decide) rfl rfl (by decide) (by decide) (fun _ => ?_) (fun h => absurd h (by decide))
            refine aw_aload3 50 dX11_whole_50 ?_
            cases hnx : nx τ x with
            | none =>
              refine cr_v1 51 dX11_whole_51 (c_orN hC hx hnx) ckV_RX11_225 cd_X3_origin (hC.pc x hx).2.2.2.1 vc3 rfl rfl (Nat.le_of_ble_eq_true rfl) ⟨⟨by decide, by decide⟩, by decide, by decide⟩ rfl ?_
              refine aw_astoreN3 54 dX11_whole_54 rfl ?_
              refine aw_goto 55 26 dX11_whole_55 (by decide) ?_
              exact ih26 0 (by rw [← hdd]; exact Nat.succ_pos _) none d rfl (fun _ q => by cases q) (Nat.zero_le _) (by rw [hq, hnx])
            | some y =>
              have hyx := nx_lt hC hx hnx
              refine cr_v1 51 dX11_whole_51 (c_orS hC hx hnx) ckV_RX11_225 cd_X3_origin (hC.pc x hx).2.2.2.1 vc3 rfl rfl (Nat.le_of_ble_eq_true rfl) ⟨⟨by decide, by decide⟩, by decide, by decide⟩ rfl ?_
              refine aw_astore3 54 dX11_whole_54 rfl ?_
              refine aw_goto 55 26 dX11_whole_55 (by decide) ?_
              exact ih26 (y + 1) (by rw [← hdd]; exact Nat.succ_lt_succ hyx) (some y) d rfl (fun _ q => by cases q; omega) (by show y + 1 ≤ d; omega) (by rw [hq, hnx])
          · have hN := (hC.nc x hx hno).k2 hk
            rw [if_neg (fun q => q.2 hk), whO_0] at hq
            have hq : sWh τ p = 0 := hq
            refine aw_ifnull 34 dX11_whole_34 ?_
            refine aw_aload3 37 dX11_whole_37 ?_
            refine aw_get 38 dX11_whole_38 ckF_RX11_147_3 (hC.pc x hx).2.2.2.1 ((hC.pc x hx).2.2.2.2.2.2.2.2.1.trans (if_neg hno)) ?_
            refine cr_u1 (rr := (RX6, TX6, 5)) (owner := RX7) (y := ⟨RX7, "kind", "()I"⟩) 41 dX11_whole_41 c_X6_kind ckU_RX11_199_6 cd_X6_kind cd_X7_kind hN.2.1 vc6 rfl (Nat.le_of_ble_eq_true rfl) ⟨⟨by decide, by decide⟩, by decide, by decide⟩ rfl ?_
            refine aw_ic2 44 dX11_whole_44 ?_
            refine aw_icmp_neN 45 50 (2) (2) dX11_whole_45 (by decide) rfl rfl (by decide) (by decide) (fun h => absurd h (by decide)) (fun _ => ?_)
            refine aw_ic0 48 dX11_whole_48 ?_
            refine aw_iret 49 dX11_whole_49 rfl (Nat.zero_le _) (Nat.zero_le _) ?_
            exact ⟨by rw [hq], hR, α, hC⟩
    exact LP26 (p + 1) (some p) 13 rfl (fun _ q => by cases q; exact hp) (by show p + 1 ≤ 13; omega) hq0
  · have hq : sWh τ p = 0 := by unfold sWh; rw [if_neg (fun q => h19 (hng.mp q)), whO_0, if_neg (nn rfl)]
    refine aw_ic0 22 dX11_whole_22 ?_
    refine aw_iret 23 dX11_whole_23 rfl (Nat.zero_le _) (Nat.zero_le _) ?_
    exact ⟨by rw [hq], hR, α, hC⟩

def rmX11_doubtful : Room := { frames := 7, cells := 0, slots := 0, locals := 182 }
set_option maxHeartbeats 4000000 in
set_option maxRecDepth 100000 in
theorem c_X11_doubtful {M0 : Mem} {τ : TT} {α : AT}  (hC : CW τ α M0) : CK mX11_doubtful rmX11_doubtful [] M0 (.int (dfl τ (nK τ))) (τ) := by
  refine am_of rfl rfl (ls := [some (.ref 2), none, none]) rfl ?_
  suffices HH : ∀ M, (CW τ α M) → (Kr M0 M) → AW mX11_doubtful rmX11_doubtful (fun r' M' => r' = (some (.int (dfl τ (nK τ)))) ∧ (fun M2 => Kr M0 M2 ∧ ∃ α2, CW (τ) α2 M2) M') 0 [some (.ref 2), none, none] [] M 0 0 from HH M0 hC (Kr.rf _)
  intro M hC hR
  have h12 := hC.wp.1.1
  have h9k := hC.wk.1.1
  refine aw_ic0 0 dX11_doubtful_0 ?_
  refine aw_istore1 1 dX11_doubtful_1 rfl ?_
  refine aw_ic0 2 dX11_doubtful_2 ?_
  refine aw_istore2 3 dX11_doubtful_3 rfl ?_
  have LP4 : ∀ (dd : Nat) (k : Nat) (M : Mem), nK τ - k = dd → (k ≤ nK τ) → (CW τ α M) → (Kr M0 M) → AW mX11_doubtful rmX11_doubtful (fun r' M' => r' = (some (.int (dfl τ (nK τ)))) ∧ (fun M2 => Kr M0 M2 ∧ ∃ α2, CW (τ) α2 M2) M') 4 [some (.ref 2), some (.int (dfl τ k)), some (.int (nI k))] [] M 0 0 := by
    intro dd
    induction dd using Nat.strongRecOn with
    | _ dd ih4 =>
      intro k M hdd hk hC hR
      refine aw_iload2 4 dX11_doubtful_4 ?_
      refine aw_aload0 5 dX11_doubtful_5 ?_
      refine aw_get 6 dX11_doubtful_6 ckF_RX11_271_11 hC.xo.1 (hC.xo.2.2.2.2.2.2.2.2.2.2.2.1.trans (congrArg Value.int hC.wk.1.2)) ?_
      refine aw_icmp_geN 9 42 (k) (nK τ) dX11_doubtful_9 (by decide) rfl rfl (by omega) (by omega) (fun h9 => ?_) (fun h9 => ?_)
      · have he : k = nK τ := by omega
        rw [he]
        refine aw_iload1 42 dX11_doubtful_42 ?_
        refine aw_iret 43 dX11_doubtful_43 rfl (Nat.zero_le _) (Nat.zero_le _) ?_
        exact ⟨rfl, hR, α, hC⟩
      · refine aw_aload0 12 dX11_doubtful_12 ?_
        refine aw_aload0 13 dX11_doubtful_13 ?_
        refine aw_get 14 dX11_doubtful_14 ckF_RX11_25_11 hC.xo.1 hC.xo.2.2.2.1 ?_
        refine aw_iload2 17 dX11_doubtful_17 ?_
        refine aw_aald 18 (k) dX11_doubtful_18 hC.ax.2.2.2.1 (by decide) (by decide) rfl (show k < 9 by omega) (by decide) (hC.kc k h9).2.2.1 ?_
        have hsq : dgt (τ 25) k < nP τ := by obtain ⟨q, q1, q2⟩ := hC.wk.2 k h9; rw [dgt_n q2 (by omega)]; exact q1
        have hng := dbt_neg hC hsq
        refine aw_get 19 dX11_doubtful_19 ckF_RX11_283_2 (hC.kc k h9).2.2.2.1 (hC.kc k h9).2.2.2.2.1 ?_
        refine ap_v1 22 dX11_doubtful_22 (c_X11_firstDoubt hC hsq) ckV_RX11_226 cd_X11_firstDoubt hC.xo.1 vc11 rfl rfl (Nat.le_of_ble_eq_true rfl) ⟨⟨by decide, by decide⟩, by decide, by decide⟩ rfl (fun M hv => ?_)
        replace hR := hR.trans (hv.1.kr hC.m1 (fun b q => by unfold SC at q; omega))
        replace hC := hv.2
        refine aw_bipush 25 (-9) dX11_doubtful_25 (by decide) ?_
        refine aw_icmp_eq 27 36 dX11_doubtful_27 (by decide) (fun h27 => ?_) (fun h27 => ?_)
        · rw [show dfl τ k = dfl τ (k + 1) by rw [dfl_s, if_pos (hng.mpr h27)]; exact (Int32.or_zero).symm]
          refine aw_iinc2 36 (nI (k + 1)) dX11_doubtful_36 (nI_1 _) rfl ?_
          refine aw_goto 39 4 dX11_doubtful_39 (by decide) ?_
          exact ih4 _ (by omega) (k + 1) M rfl (by omega) hC hR
        · refine aw_iload1 30 dX11_doubtful_30 ?_
          refine aw_ic1 31 dX11_doubtful_31 ?_
          refine aw_iload2 32 dX11_doubtful_32 ?_
          refine aw_ishl 33 dX11_doubtful_33 ?_
          refine aw_ior 34 dX11_doubtful_34 ?_
          rw [show dfl τ k ||| (1 : Int32) <<< (nI k &&& 31) = dfl τ (k + 1) by rw [dfl_s, if_neg (fun q => h27 (hng.mp q))]]
          refine aw_istore1 35 dX11_doubtful_35 rfl ?_
          refine aw_iinc2 36 (nI (k + 1)) dX11_doubtful_36 (nI_1 _) rfl ?_
          refine aw_goto 39 4 dX11_doubtful_39 (by decide) ?_
          exact ih4 _ (by omega) (k + 1) M rfl (by omega) hC hR
  exact LP4 _ 0 M rfl (by omega) hC hR

theorem and1 (x : Int32) : x &&& 1 = 0 ∨ x &&& 1 = 1 := by
  obtain ⟨j, j1, j2⟩ := pk_andE x (m := 1) 1 (by decide)
  rw [j2]
  rcases (show j = 0 ∨ j = 1 by omega) with rfl | rfl
  · exact Or.inl rfl
  · exact Or.inr rfl
theorem olk_s {τ : TT} {s w : Int32} {k : Nat} : olk τ s w (k + 1) = olk τ s w k + (if ¬ hbt s k then 0 else if w = 1 then τ 27 k else τ 26 k) := rfl
theorem olk_t {τ : TT} {s w v : Int32} {k : Nat} (hv : v = if w = 1 then τ 27 k else τ 26 k) : olk τ s w k + ((s >>> (nI k &&& 31)) &&& 1) * v = olk τ s w (k + 1) := by
  rw [olk_s]
  congr 1
  rcases and1 (s >>> (nI k &&& 31)) with h | h
  · rw [if_pos (fun q => absurd (h.symm.trans q) (by decide)), h, Int32.zero_mul]
  · rw [if_neg (nn h), h, Int32.one_mul, hv]

def rmX11_hoursOf : Room := { frames := 0, cells := 0, slots := 0, locals := 0 }
set_option maxHeartbeats 4000000 in
set_option maxRecDepth 100000 in
theorem c_X11_hoursOf {M : Mem} {τ : TT} {α : AT} {s : Int32} (hC : CW τ α M) : CR mX11_hoursOf rmX11_hoursOf [.ref 2, .int s] M (some (.int (olk τ s 2 (nK τ)))) := by
  refine am_of rfl rfl (ls := [some (.ref 2), some (.int s), none, none]) rfl ?_
  have h9k := hC.wk.1.1
  refine aw_ic0 0 dX11_hoursOf_0 ?_
  refine aw_istore2 1 dX11_hoursOf_1 rfl ?_
  refine aw_ic0 2 dX11_hoursOf_2 ?_
  refine aw_istore3 3 dX11_hoursOf_3 rfl ?_
  have LP4 : ∀ (dd : Nat) (k : Nat), nK τ - k = dd → (k ≤ nK τ) → AW mX11_hoursOf rmX11_hoursOf (fun r' M' => r' = (some (.int (olk τ s 2 (nK τ)))) ∧ M' = M) 4 [some (.ref 2), some (.int s), some (.int (olk τ s 2 k)), some (.int (nI k))] [] M 0 0 := by
    intro dd
    induction dd using Nat.strongRecOn with
    | _ dd ih4 =>
      intro k hdd hk
      refine aw_iload3 4 dX11_hoursOf_4 ?_
      refine aw_aload0 5 dX11_hoursOf_5 ?_
      refine aw_get 6 dX11_hoursOf_6 ckF_RX11_271_11 hC.xo.1 (hC.xo.2.2.2.2.2.2.2.2.2.2.2.1.trans (congrArg Value.int hC.wk.1.2)) ?_
      refine aw_icmp_geN 9 36 (k) (nK τ) dX11_hoursOf_9 (by decide) rfl rfl (by omega) (by omega) (fun h9 => ?_) (fun h9 => ?_)
      · have he : k = nK τ := by omega
        rw [he]
        refine aw_iload2 36 dX11_hoursOf_36 ?_
        refine aw_iret 37 dX11_hoursOf_37 rfl (Nat.zero_le _) (Nat.zero_le _) ?_
        exact ⟨rfl, rfl⟩
      · refine aw_iload2 12 dX11_hoursOf_12 ?_
        refine aw_iload1 13 dX11_hoursOf_13 ?_
        refine aw_iload3 14 dX11_hoursOf_14 ?_
        refine aw_ishr 15 dX11_hoursOf_15 ?_
        refine aw_ic1 16 dX11_hoursOf_16 ?_
        refine aw_iand 17 dX11_hoursOf_17 ?_
        refine aw_aload0 18 dX11_hoursOf_18 ?_
        refine aw_get 19 dX11_hoursOf_19 ckF_RX11_25_11 hC.xo.1 hC.xo.2.2.2.1 ?_
        refine aw_iload3 22 dX11_hoursOf_22 ?_
        refine aw_aald 23 (k) dX11_hoursOf_23 hC.ax.2.2.2.1 (by decide) (by decide) rfl (show k < 9 by omega) (by decide) (hC.kc k h9).2.2.1 ?_
        refine aw_get 24 dX11_hoursOf_24 ckF_RX11_346_2 (hC.kc k h9).2.2.2.1 (hC.kc k h9).2.2.2.2.2.1 ?_
        refine aw_imul 27 dX11_hoursOf_27 ?_
        refine aw_iadd 28 dX11_hoursOf_28 ?_
        rw [olk_t (w := 2) (by first | rfl | (rw [if_neg (by decide)]))]
        refine aw_istore2 29 dX11_hoursOf_29 rfl ?_
        refine aw_iinc3 30 (nI (k + 1)) dX11_hoursOf_30 (nI_1 _) rfl ?_
        refine aw_goto 33 4 dX11_hoursOf_33 (by decide) ?_
        exact ih4 _ (by omega) (k + 1) rfl (by omega)
  exact LP4 _ 0 rfl (by omega)

def rmX11_worthOf : Room := { frames := 0, cells := 0, slots := 0, locals := 0 }
set_option maxHeartbeats 4000000 in
set_option maxRecDepth 100000 in
theorem c_X11_worthOf {M : Mem} {τ : TT} {α : AT} {s : Int32} (hC : CW τ α M) : CR mX11_worthOf rmX11_worthOf [.ref 2, .int s] M (some (.int (olk τ s 1 (nK τ)))) := by
  refine am_of rfl rfl (ls := [some (.ref 2), some (.int s), none, none]) rfl ?_
  have h9k := hC.wk.1.1
  refine aw_ic0 0 dX11_worthOf_0 ?_
  refine aw_istore2 1 dX11_worthOf_1 rfl ?_
  refine aw_ic0 2 dX11_worthOf_2 ?_
  refine aw_istore3 3 dX11_worthOf_3 rfl ?_
  have LP4 : ∀ (dd : Nat) (k : Nat), nK τ - k = dd → (k ≤ nK τ) → AW mX11_worthOf rmX11_worthOf (fun r' M' => r' = (some (.int (olk τ s 1 (nK τ)))) ∧ M' = M) 4 [some (.ref 2), some (.int s), some (.int (olk τ s 1 k)), some (.int (nI k))] [] M 0 0 := by
    intro dd
    induction dd using Nat.strongRecOn with
    | _ dd ih4 =>
      intro k hdd hk
      refine aw_iload3 4 dX11_worthOf_4 ?_
      refine aw_aload0 5 dX11_worthOf_5 ?_
      refine aw_get 6 dX11_worthOf_6 ckF_RX11_271_11 hC.xo.1 (hC.xo.2.2.2.2.2.2.2.2.2.2.2.1.trans (congrArg Value.int hC.wk.1.2)) ?_
      refine aw_icmp_geN 9 36 (k) (nK τ) dX11_worthOf_9 (by decide) rfl rfl (by omega) (by omega) (fun h9 => ?_) (fun h9 => ?_)
      · have he : k = nK τ := by omega
        rw [he]
        refine aw_iload2 36 dX11_worthOf_36 ?_
        refine aw_iret 37 dX11_worthOf_37 rfl (Nat.zero_le _) (Nat.zero_le _) ?_
        exact ⟨rfl, rfl⟩
      · refine aw_iload2 12 dX11_worthOf_12 ?_
        refine aw_iload1 13 dX11_worthOf_13 ?_
        refine aw_iload3 14 dX11_worthOf_14 ?_
        refine aw_ishr 15 dX11_worthOf_15 ?_
        refine aw_ic1 16 dX11_worthOf_16 ?_
        refine aw_iand 17 dX11_worthOf_17 ?_
        refine aw_aload0 18 dX11_worthOf_18 ?_
        refine aw_get 19 dX11_worthOf_19 ckF_RX11_25_11 hC.xo.1 hC.xo.2.2.2.1 ?_
        refine aw_iload3 22 dX11_worthOf_22 ?_
        refine aw_aald 23 (k) dX11_worthOf_23 hC.ax.2.2.2.1 (by decide) (by decide) rfl (show k < 9 by omega) (by decide) (hC.kc k h9).2.2.1 ?_
        refine aw_get 24 dX11_worthOf_24 ckF_RX11_349_2 (hC.kc k h9).2.2.2.1 (hC.kc k h9).2.2.2.2.2.2 ?_
        refine aw_imul 27 dX11_worthOf_27 ?_
        refine aw_iadd 28 dX11_worthOf_28 ?_
        rw [olk_t (w := 1) (by first | rfl | (rw [if_neg (by decide)]))]
        refine aw_istore2 29 dX11_worthOf_29 rfl ?_
        refine aw_iinc3 30 (nI (k + 1)) dX11_worthOf_30 (nI_1 _) rfl ?_
        refine aw_goto 33 4 dX11_worthOf_33 (by decide) ?_
        exact ih4 _ (by omega) (k + 1) rfl (by omega)
  exact LP4 _ 0 rfl (by omega)

theorem olk_nat {τ : TT} {s w : Int32} (hl : LK τ) : ∀ k, k ≤ nK τ → ∃ x, x ≤ 99 * k ∧ olk τ s w k = nI x := by
  intro k
  induction k with
  | zero => intro _; exact ⟨0, by omega, rfl⟩
  | succ k ih =>
    intro hk
    obtain ⟨x, h1, h2⟩ := ih (by omega)
    obtain ⟨l1, l2⟩ := hl k (by omega)
    rw [olk_s, h2]
    by_cases c : hbt s k
    · rw [if_neg (nn c)]
      by_cases c2 : w = 1
      · rw [if_pos c2]
        obtain ⟨y, y1, y2⟩ := irg_cs l2
        exact ⟨x + y, by omega, by rw [y2, nI_add]⟩
      · rw [if_neg c2]
        obtain ⟨y, y1, y2⟩ := irg_cs (v := τ 26 k) ⟨by have := l1.1; omega, by have := l1.2; omega⟩
        exact ⟨x + y, by omega, by rw [y2, nI_add]⟩
    · rw [if_pos c]
      exact ⟨x, by omega, Int32.add_zero _⟩
theorem olk_0 {τ : TT} {w : Int32} : ∀ k, k ≤ 9 → olk τ 0 w k = 0 := by
  intro k
  induction k with
  | zero => intro _; rfl
  | succ k ih =>
    intro hk
    rw [olk_s, ih (by omega), if_pos]
    · rfl
    · have h : ∀ j, j < 9 → ¬ hbt 0 j := by decide +kernel
      exact h k (by omega)
theorem betr_i {τ : TT} (hk : nK τ ≤ 9) (hl : LK τ) (s b : Nat) : betr τ s b ↔ olks τ b 1 < olks τ s 1 ∨ (olks τ s 1 = olks τ b 1 ∧ olks τ s 2 < olks τ b 2) := by
  obtain ⟨x, x1, x2⟩ := olk_nat (s := nI s) (w := 1) hl (nK τ) (Nat.le_refl _)
  obtain ⟨y, y1, y2⟩ := olk_nat (s := nI b) (w := 1) hl (nK τ) (Nat.le_refl _)
  unfold betr
  have ex : olks τ s 1 = nI x := x2
  have ey : olks τ b 1 = nI y := y2
  have e : (nI x - nI y).toInt = (x : Int) - y := by
    rw [i32s (by rw [nI_toInt (by omega), nI_toInt (by omega)]; omega) (by rw [nI_toInt (by omega), nI_toInt (by omega)]; omega), nI_toInt (by omega), nI_toInt (by omega)]
  rw [ex, ey]
  refine or_congr ?_ (and_congr ?_ Iff.rfl)
  · rw [Int32.lt_iff_toInt_lt, e, nI_ltE (by omega) (by omega), show (0 : Int32).toInt = 0 by decide]; omega
  · rw [← Int32.toInt_inj, e, nI_eq (by omega) (by omega), show (0 : Int32).toInt = 0 by decide]; omega
theorem olks0 {τ : TT} {w : Int32} (hk : nK τ ≤ 9) : olks τ 0 w = 0 := olk_0 _ hk

def rmX11_best : Room := { frames := 1, cells := 0, slots := 0, locals := 23 }
set_option maxHeartbeats 4000000 in
set_option maxRecDepth 100000 in
theorem n_X11_best {M0 : Mem} {τ : TT} {α : AT} {h w : Int32} (hC : CW τ α M0) (hno : ¬ irg h 0 99 ∨ ¬ irg w 0 2) : CK mX11_best rmX11_best [.int h, .int w] M0 (.int (-2)) (τ) := by
  refine am_of rfl rfl (ls := [some (.ref 2), some (.int h), some (.int w), none, none, none, none, none, none, none]) rfl ?_
  suffices HH : ∀ M, (CW τ α M) → (Kr M0 M) → AW mX11_best rmX11_best (fun r' M' => r' = (some (.int (-2))) ∧ (fun M2 => Kr M0 M2 ∧ ∃ α2, CW (τ) α2 M2) M') 0 [some (.ref 2), some (.int h), some (.int w), none, none, none, none, none, none, none] [] M 0 0 from HH M0 hC (Kr.rf _)
  intro M hC hR
  refine aw_iload1 0 dX11_best_0 ?_
  refine aw_ic0 1 dX11_best_1 ?_
  refine aw_bipush 2 99 dX11_best_2 (by decide) ?_
  refine cr_s1 4 dX11_best_4 (cr_sd (c_isInZ (0) (99) (by decide) (by decide))) ckS_RX11_72 cd_X11_isIn rfl (Nat.le_of_ble_eq_true rfl) ⟨⟨by decide, by decide⟩, by decide, by decide⟩ rfl ?_
  refine aw_ifeq_b 7 19 dX11_best_7 (by decide) (fun h7 => ?_) (fun h7 => ?_)
  · refine aw_bipush 19 (-2) dX11_best_19 (by decide) ?_
    refine aw_iret 21 dX11_best_21 rfl (Nat.zero_le _) (Nat.zero_le _) ?_
    exact ⟨rfl, hR, α, hC⟩
  · refine aw_iload2 10 dX11_best_10 ?_
    refine aw_ic0 11 dX11_best_11 ?_
    refine aw_ic2 12 dX11_best_12 ?_
    refine cr_s1 13 dX11_best_13 (cr_sd (c_isInZ (0) (2) (by decide) (by decide))) ckS_RX11_72 cd_X11_isIn rfl (Nat.le_of_ble_eq_true rfl) ⟨⟨by decide, by decide⟩, by decide, by decide⟩ rfl ?_
    refine aw_ifne_b 16 22 dX11_best_16 (by decide) (fun h16 => ?_) (fun h16 => ?_)
    · exact (hno.elim (fun q => q h7) (fun q => q h16)).elim
    · refine aw_bipush 19 (-2) dX11_best_19 (by decide) ?_
      refine aw_iret 21 dX11_best_21 rfl (Nat.zero_le _) (Nat.zero_le _) ?_
      exact ⟨rfl, hR, α, hC⟩

set_option maxHeartbeats 4000000 in
set_option maxRecDepth 100000 in
theorem c_X11_best {M0 : Mem} {τ : TT} {α : AT} {h w : Int32} (hC : CW τ α M0) (h1 : irg h 0 99) (h2 : irg w 0 2) : CK mX11_best rmX11_best [.int h, .int w] M0 (.int (sBe τ h w)) (τ) := by
  refine am_of rfl rfl (ls := [some (.ref 2), some (.int h), some (.int w), none, none, none, none, none, none, none]) rfl ?_
  suffices HH : ∀ M, (CW τ α M) → (Kr M0 M) → AW mX11_best rmX11_best (fun r' M' => r' = (some (.int (sBe τ h w))) ∧ (fun M2 => Kr M0 M2 ∧ ∃ α2, CW (τ) α2 M2) M') 0 [some (.ref 2), some (.int h), some (.int w), none, none, none, none, none, none, none] [] M 0 0 from HH M0 hC (Kr.rf _)
  intro M hC hR
  have h9k := hC.wk.1.1
  obtain ⟨P, hP⟩ : ∃ P, 2 ^ nK τ = P := ⟨_, rfl⟩
  have hpw := pw9 h9k
  rw [hP] at hpw
  have hsh : (1 : Int32) <<< (nI (nK τ) &&& 31) = nI P := by rw [shl1 _ (by omega), hP]
  have z1 := olks0 (τ := τ) (w := 1) h9k
  have z2 := olks0 (τ := τ) (w := 2) h9k
  refine aw_iload1 0 dX11_best_0 ?_
  refine aw_ic0 1 dX11_best_1 ?_
  refine aw_bipush 2 99 dX11_best_2 (by decide) ?_
  refine cr_s1 4 dX11_best_4 (cr_sd (c_isInZ (0) (99) (by decide) (by decide))) ckS_RX11_72 cd_X11_isIn rfl (Nat.le_of_ble_eq_true rfl) ⟨⟨by decide, by decide⟩, by decide, by decide⟩ rfl ?_
  refine aw_ifeq_b 7 19 dX11_best_7 (by decide) (fun h7 => ?_) (fun h7 => ?_)
  · exact absurd h1 h7
  · refine aw_iload2 10 dX11_best_10 ?_
    refine aw_ic0 11 dX11_best_11 ?_
    refine aw_ic2 12 dX11_best_12 ?_
    refine cr_s1 13 dX11_best_13 (cr_sd (c_isInZ (0) (2) (by decide) (by decide))) ckS_RX11_72 cd_X11_isIn rfl (Nat.le_of_ble_eq_true rfl) ⟨⟨by decide, by decide⟩, by decide, by decide⟩ rfl ?_
    refine aw_ifne_b 16 22 dX11_best_16 (by decide) (fun h16 => ?_) (fun h16 => ?_)
    · refine aw_ic0 22 dX11_best_22 ?_
      refine aw_istore3 23 dX11_best_23 rfl ?_
      refine aw_ic0 24 dX11_best_24 ?_
      refine aw_istore4 25 dX11_best_25 rfl ?_
      refine aw_ic0 27 dX11_best_27 ?_
      refine aw_istore5 28 dX11_best_28 rfl ?_
      refine aw_ic1 30 dX11_best_30 ?_
      refine aw_istore6 31 dX11_best_31 rfl ?_
      have LP33 : ∀ (dd : Nat) (n : Nat) (bs bw bh : Int32) (z7 z8 z9 : Option Value), P - n = dd → (n + 1 ≤ P) → (bs = nI (bst τ h n)) → (bw = olks τ (bst τ h n) 1) → (bh = olks τ (bst τ h n) 2) → AW mX11_best rmX11_best (fun r' M' => r' = (some (.int (sBe τ h w))) ∧ (fun M2 => Kr M0 M2 ∧ ∃ α2, CW (τ) α2 M2) M') 33 [some (.ref 2), some (.int h), some (.int w), some (.int bs), some (.int bw), some (.int bh), some (.int (nI (n + 1))), z7, z8, z9] [] M 0 0 := by
        intro dd
        induction dd using Nat.strongRecOn with
        | _ dd ih33 =>
          intro n bs bw bh z7 z8 z9 hdd hn hbs hbw hbh
          subst hbs hbw hbh
          refine aw_iload6 33 dX11_best_33 ?_
          refine aw_ic1 35 dX11_best_35 ?_
          refine aw_aload0 36 dX11_best_36 ?_
          refine aw_get 37 dX11_best_37 ckF_RX11_271_11 hC.xo.1 (hC.xo.2.2.2.2.2.2.2.2.2.2.2.1.trans (congrArg Value.int hC.wk.1.2)) ?_
          refine aw_ishl 40 dX11_best_40 ?_
          refine aw_topi hsh ?_
          refine aw_icmp_geN 41 116 (n + 1) (P) dX11_best_41 (by decide) rfl rfl (by omega) (by omega) (fun h41 => ?_) (fun h41 => ?_)
          · have hn : n = P - 1 := by omega
            subst hn
            rw [← hP] at *
            refine aw_iload2 116 dX11_best_116 ?_
            refine aw_if_ne 117 124 dX11_best_117 (by decide) (fun h117 => ?_) (fun h117 => ?_)
            · refine aw_iload2 124 dX11_best_124 ?_
              refine aw_ic1 125 dX11_best_125 ?_
              refine aw_icmp_ne 126 134 dX11_best_126 (by decide) (fun h126 => ?_) (fun h126 => ?_)
              · refine aw_iload5 134 dX11_best_134 ?_
                refine aw_iret 136 dX11_best_136 rfl (Nat.zero_le _) (Nat.zero_le _) ?_
                refine ⟨?_, hR, α, hC⟩
                unfold sBe
                first
                  | (rw [if_pos h117]; done)
                  | (rw [if_neg h117, h126]; done)
                  | (rw [if_neg h117]
                     have e2 : w = 2 := by
                       obtain ⟨j, j1, rfl⟩ := irg_of (b := 2) (by decide) h2
                       rcases (show j = 0 ∨ j = 1 ∨ j = 2 by omega) with rfl | rfl | rfl
                       · exact absurd rfl h117
                       · exact absurd rfl h126
                       · rfl
                     rw [e2]; done)
              · refine aw_iload4 129 dX11_best_129 ?_
                refine aw_goto 131 136 dX11_best_131 (by decide) ?_
                refine aw_iret 136 dX11_best_136 rfl (Nat.zero_le _) (Nat.zero_le _) ?_
                refine ⟨?_, hR, α, hC⟩
                unfold sBe
                first
                  | (rw [if_pos h117]; done)
                  | (rw [if_neg h117, h126]; done)
                  | (rw [if_neg h117]
                     have e2 : w = 2 := by
                       obtain ⟨j, j1, rfl⟩ := irg_of (b := 2) (by decide) h2
                       rcases (show j = 0 ∨ j = 1 ∨ j = 2 by omega) with rfl | rfl | rfl
                       · exact absurd rfl h117
                       · exact absurd rfl h126
                       · rfl
                     rw [e2]; done)
            · refine aw_iload3 120 dX11_best_120 ?_
              refine aw_goto 121 136 dX11_best_121 (by decide) ?_
              refine aw_iret 136 dX11_best_136 rfl (Nat.zero_le _) (Nat.zero_le _) ?_
              refine ⟨?_, hR, α, hC⟩
              unfold sBe
              first
                | (rw [if_pos h117]; done)
                | (rw [if_neg h117, h126]; done)
                | (rw [if_neg h117]
                   have e2 : w = 2 := by
                     obtain ⟨j, j1, rfl⟩ := irg_of (b := 2) (by decide) h2
                     rcases (show j = 0 ∨ j = 1 ∨ j = 2 by omega) with rfl | rfl | rfl
                     · exact absurd rfl h117
                     · exact absurd rfl h126
                     · rfl
                   rw [e2]; done)
          · have hb := betr_i h9k hC.lk (n + 1) (bst τ h n)
            have hs := bst_s (τ := τ) (hours := h) (n := n)
            refine aw_aload0 44 dX11_best_44 ?_
            refine aw_iload6 45 dX11_best_45 ?_
            refine cr_v1 47 dX11_best_47 (c_X11_hoursOf hC) ckV_RX11_277 cd_X11_hoursOf hC.xo.1 vc11 rfl rfl (Nat.le_of_ble_eq_true rfl) ⟨⟨by decide, by decide⟩, by decide, by decide⟩ rfl ?_
            refine aw_istore7 50 dX11_best_50 rfl ?_
            refine aw_aload0 52 dX11_best_52 ?_
            refine aw_iload6 53 dX11_best_53 ?_
            refine cr_v1 55 dX11_best_55 (c_X11_worthOf hC) ckV_RX11_280 cd_X11_worthOf hC.xo.1 vc11 rfl rfl (Nat.le_of_ble_eq_true rfl) ⟨⟨by decide, by decide⟩, by decide, by decide⟩ rfl ?_
            refine aw_istore8 58 dX11_best_58 rfl ?_
            refine aw_iload8 60 dX11_best_60 ?_
            refine aw_iload4 62 dX11_best_62 ?_
            refine aw_icmp_gt 64 81 dX11_best_64 (by decide) (fun h64 => ?_) (fun h64 => ?_)
            · have hB : betr τ (n + 1) (bst τ h n) := hb.mpr (Or.inl h64)
              refine aw_ic1 81 dX11_best_81 ?_
              refine aw_goto 82 86 dX11_best_82 (by decide) ?_
              refine aw_istore9 86 dX11_best_86 rfl ?_
              refine aw_iload7 88 dX11_best_88 ?_
              refine aw_iload1 90 dX11_best_90 ?_
              refine aw_icmp_gt 91 110 dX11_best_91 (by decide) (fun h91 => ?_) (fun h91 => ?_)
              · have he : bst τ h (n + 1) = bst τ h n := by rw [hs, if_neg (fun q => Int32.not_lt.mpr q.1 h91)]
                refine aw_iinc6 110 (nI (n + 1 + 1)) dX11_best_110 (nI_1 _) rfl ?_
                refine aw_goto 113 33 dX11_best_113 (by decide) ?_
                exact ih33 _ (by omega) (n + 1) _ _ _ _ _ _ rfl (by omega) (by first | (rw [he]; done) | (rw [hs, if_neg (fun q => hB q.2)]; done) | (rw [hs, if_pos ⟨Int32.not_lt.mp h91, hB⟩]; done) | (rw [hs, if_pos ⟨Int32.not_lt.mp h91, hB⟩]; rfl)) (by first | (rw [he]; done) | (rw [hs, if_neg (fun q => hB q.2)]; done) | (rw [hs, if_pos ⟨Int32.not_lt.mp h91, hB⟩]; done) | (rw [hs, if_pos ⟨Int32.not_lt.mp h91, hB⟩]; rfl)) (by first | (rw [he]; done) | (rw [hs, if_neg (fun q => hB q.2)]; done) | (rw [hs, if_pos ⟨Int32.not_lt.mp h91, hB⟩]; done) | (rw [hs, if_pos ⟨Int32.not_lt.mp h91, hB⟩]; rfl))
              · refine aw_iload9 94 dX11_best_94 ?_
                refine aw_if_eqN 96 110 (1) dX11_best_96 (by decide) rfl (by decide) (fun h => absurd h (by decide)) (fun _ => ?_)
                refine aw_iload6 99 dX11_best_99 ?_
                refine aw_istore3 101 dX11_best_101 rfl ?_
                refine aw_iload8 102 dX11_best_102 ?_
                refine aw_istore4 104 dX11_best_104 rfl ?_
                refine aw_iload7 106 dX11_best_106 ?_
                refine aw_istore5 108 dX11_best_108 rfl ?_
                refine aw_iinc6 110 (nI (n + 1 + 1)) dX11_best_110 (nI_1 _) rfl ?_
                refine aw_goto 113 33 dX11_best_113 (by decide) ?_
                exact ih33 _ (by omega) (n + 1) _ _ _ _ _ _ rfl (by omega) (by first | (rw [he]; done) | (rw [hs, if_neg (fun q => hB q.2)]; done) | (rw [hs, if_pos ⟨Int32.not_lt.mp h91, hB⟩]; done) | (rw [hs, if_pos ⟨Int32.not_lt.mp h91, hB⟩]; rfl)) (by first | (rw [he]; done) | (rw [hs, if_neg (fun q => hB q.2)]; done) | (rw [hs, if_pos ⟨Int32.not_lt.mp h91, hB⟩]; done) | (rw [hs, if_pos ⟨Int32.not_lt.mp h91, hB⟩]; rfl)) (by first | (rw [he]; done) | (rw [hs, if_neg (fun q => hB q.2)]; done) | (rw [hs, if_pos ⟨Int32.not_lt.mp h91, hB⟩]; done) | (rw [hs, if_pos ⟨Int32.not_lt.mp h91, hB⟩]; rfl))
            · refine aw_iload8 67 dX11_best_67 ?_
              refine aw_iload4 69 dX11_best_69 ?_
              refine aw_icmp_ne 71 85 dX11_best_71 (by decide) (fun h71 => ?_) (fun h71 => ?_)
              · have hB : ¬ betr τ (n + 1) (bst τ h n) := fun q => (hb.mp q).elim h64 (fun z => h71 z.1)
                refine aw_ic0 85 dX11_best_85 ?_
                refine aw_istore9 86 dX11_best_86 rfl ?_
                refine aw_iload7 88 dX11_best_88 ?_
                refine aw_iload1 90 dX11_best_90 ?_
                refine aw_icmp_gt 91 110 dX11_best_91 (by decide) (fun h91 => ?_) (fun h91 => ?_)
                · have he : bst τ h (n + 1) = bst τ h n := by rw [hs, if_neg (fun q => Int32.not_lt.mpr q.1 h91)]
                  refine aw_iinc6 110 (nI (n + 1 + 1)) dX11_best_110 (nI_1 _) rfl ?_
                  refine aw_goto 113 33 dX11_best_113 (by decide) ?_
                  exact ih33 _ (by omega) (n + 1) _ _ _ _ _ _ rfl (by omega) (by first | (rw [he]; done) | (rw [hs, if_neg (fun q => hB q.2)]; done) | (rw [hs, if_pos ⟨Int32.not_lt.mp h91, hB⟩]; done) | (rw [hs, if_pos ⟨Int32.not_lt.mp h91, hB⟩]; rfl)) (by first | (rw [he]; done) | (rw [hs, if_neg (fun q => hB q.2)]; done) | (rw [hs, if_pos ⟨Int32.not_lt.mp h91, hB⟩]; done) | (rw [hs, if_pos ⟨Int32.not_lt.mp h91, hB⟩]; rfl)) (by first | (rw [he]; done) | (rw [hs, if_neg (fun q => hB q.2)]; done) | (rw [hs, if_pos ⟨Int32.not_lt.mp h91, hB⟩]; done) | (rw [hs, if_pos ⟨Int32.not_lt.mp h91, hB⟩]; rfl))
                · refine aw_iload9 94 dX11_best_94 ?_
                  refine aw_if_eqN 96 110 (0) dX11_best_96 (by decide) rfl (by decide) (fun _ => ?_) (fun h => absurd h (by decide))
                  refine aw_iinc6 110 (nI (n + 1 + 1)) dX11_best_110 (nI_1 _) rfl ?_
                  refine aw_goto 113 33 dX11_best_113 (by decide) ?_
                  exact ih33 _ (by omega) (n + 1) _ _ _ _ _ _ rfl (by omega) (by first | (rw [he]; done) | (rw [hs, if_neg (fun q => hB q.2)]; done) | (rw [hs, if_pos ⟨Int32.not_lt.mp h91, hB⟩]; done) | (rw [hs, if_pos ⟨Int32.not_lt.mp h91, hB⟩]; rfl)) (by first | (rw [he]; done) | (rw [hs, if_neg (fun q => hB q.2)]; done) | (rw [hs, if_pos ⟨Int32.not_lt.mp h91, hB⟩]; done) | (rw [hs, if_pos ⟨Int32.not_lt.mp h91, hB⟩]; rfl)) (by first | (rw [he]; done) | (rw [hs, if_neg (fun q => hB q.2)]; done) | (rw [hs, if_pos ⟨Int32.not_lt.mp h91, hB⟩]; done) | (rw [hs, if_pos ⟨Int32.not_lt.mp h91, hB⟩]; rfl))
              · refine aw_iload7 74 dX11_best_74 ?_
                refine aw_iload5 76 dX11_best_76 ?_
                refine aw_icmp_ge 78 85 dX11_best_78 (by decide) (fun h78 => ?_) (fun h78 => ?_)
                · have hB : ¬ betr τ (n + 1) (bst τ h n) := fun q => (hb.mp q).elim h64 (fun z => Int32.not_lt.mpr h78 z.2)
                  refine aw_ic0 85 dX11_best_85 ?_
                  refine aw_istore9 86 dX11_best_86 rfl ?_
                  refine aw_iload7 88 dX11_best_88 ?_
                  refine aw_iload1 90 dX11_best_90 ?_
                  refine aw_icmp_gt 91 110 dX11_best_91 (by decide) (fun h91 => ?_) (fun h91 => ?_)
                  · have he : bst τ h (n + 1) = bst τ h n := by rw [hs, if_neg (fun q => Int32.not_lt.mpr q.1 h91)]
                    refine aw_iinc6 110 (nI (n + 1 + 1)) dX11_best_110 (nI_1 _) rfl ?_
                    refine aw_goto 113 33 dX11_best_113 (by decide) ?_
                    exact ih33 _ (by omega) (n + 1) _ _ _ _ _ _ rfl (by omega) (by first | (rw [he]; done) | (rw [hs, if_neg (fun q => hB q.2)]; done) | (rw [hs, if_pos ⟨Int32.not_lt.mp h91, hB⟩]; done) | (rw [hs, if_pos ⟨Int32.not_lt.mp h91, hB⟩]; rfl)) (by first | (rw [he]; done) | (rw [hs, if_neg (fun q => hB q.2)]; done) | (rw [hs, if_pos ⟨Int32.not_lt.mp h91, hB⟩]; done) | (rw [hs, if_pos ⟨Int32.not_lt.mp h91, hB⟩]; rfl)) (by first | (rw [he]; done) | (rw [hs, if_neg (fun q => hB q.2)]; done) | (rw [hs, if_pos ⟨Int32.not_lt.mp h91, hB⟩]; done) | (rw [hs, if_pos ⟨Int32.not_lt.mp h91, hB⟩]; rfl))
                  · refine aw_iload9 94 dX11_best_94 ?_
                    refine aw_if_eqN 96 110 (0) dX11_best_96 (by decide) rfl (by decide) (fun _ => ?_) (fun h => absurd h (by decide))
                    refine aw_iinc6 110 (nI (n + 1 + 1)) dX11_best_110 (nI_1 _) rfl ?_
                    refine aw_goto 113 33 dX11_best_113 (by decide) ?_
                    exact ih33 _ (by omega) (n + 1) _ _ _ _ _ _ rfl (by omega) (by first | (rw [he]; done) | (rw [hs, if_neg (fun q => hB q.2)]; done) | (rw [hs, if_pos ⟨Int32.not_lt.mp h91, hB⟩]; done) | (rw [hs, if_pos ⟨Int32.not_lt.mp h91, hB⟩]; rfl)) (by first | (rw [he]; done) | (rw [hs, if_neg (fun q => hB q.2)]; done) | (rw [hs, if_pos ⟨Int32.not_lt.mp h91, hB⟩]; done) | (rw [hs, if_pos ⟨Int32.not_lt.mp h91, hB⟩]; rfl)) (by first | (rw [he]; done) | (rw [hs, if_neg (fun q => hB q.2)]; done) | (rw [hs, if_pos ⟨Int32.not_lt.mp h91, hB⟩]; done) | (rw [hs, if_pos ⟨Int32.not_lt.mp h91, hB⟩]; rfl))
                · have hB : betr τ (n + 1) (bst τ h n) := hb.mpr (Or.inr ⟨h71, Int32.not_le.mp h78⟩)
                  refine aw_ic1 81 dX11_best_81 ?_
                  refine aw_goto 82 86 dX11_best_82 (by decide) ?_
                  refine aw_istore9 86 dX11_best_86 rfl ?_
                  refine aw_iload7 88 dX11_best_88 ?_
                  refine aw_iload1 90 dX11_best_90 ?_
                  refine aw_icmp_gt 91 110 dX11_best_91 (by decide) (fun h91 => ?_) (fun h91 => ?_)
                  · have he : bst τ h (n + 1) = bst τ h n := by rw [hs, if_neg (fun q => Int32.not_lt.mpr q.1 h91)]
                    refine aw_iinc6 110 (nI (n + 1 + 1)) dX11_best_110 (nI_1 _) rfl ?_
                    refine aw_goto 113 33 dX11_best_113 (by decide) ?_
                    exact ih33 _ (by omega) (n + 1) _ _ _ _ _ _ rfl (by omega) (by first | (rw [he]; done) | (rw [hs, if_neg (fun q => hB q.2)]; done) | (rw [hs, if_pos ⟨Int32.not_lt.mp h91, hB⟩]; done) | (rw [hs, if_pos ⟨Int32.not_lt.mp h91, hB⟩]; rfl)) (by first | (rw [he]; done) | (rw [hs, if_neg (fun q => hB q.2)]; done) | (rw [hs, if_pos ⟨Int32.not_lt.mp h91, hB⟩]; done) | (rw [hs, if_pos ⟨Int32.not_lt.mp h91, hB⟩]; rfl)) (by first | (rw [he]; done) | (rw [hs, if_neg (fun q => hB q.2)]; done) | (rw [hs, if_pos ⟨Int32.not_lt.mp h91, hB⟩]; done) | (rw [hs, if_pos ⟨Int32.not_lt.mp h91, hB⟩]; rfl))
                  · refine aw_iload9 94 dX11_best_94 ?_
                    refine aw_if_eqN 96 110 (1) dX11_best_96 (by decide) rfl (by decide) (fun h => absurd h (by decide)) (fun _ => ?_)
                    refine aw_iload6 99 dX11_best_99 ?_
                    refine aw_istore3 101 dX11_best_101 rfl ?_
                    refine aw_iload8 102 dX11_best_102 ?_
                    refine aw_istore4 104 dX11_best_104 rfl ?_
                    refine aw_iload7 106 dX11_best_106 ?_
                    refine aw_istore5 108 dX11_best_108 rfl ?_
                    refine aw_iinc6 110 (nI (n + 1 + 1)) dX11_best_110 (nI_1 _) rfl ?_
                    refine aw_goto 113 33 dX11_best_113 (by decide) ?_
                    exact ih33 _ (by omega) (n + 1) _ _ _ _ _ _ rfl (by omega) (by first | (rw [he]; done) | (rw [hs, if_neg (fun q => hB q.2)]; done) | (rw [hs, if_pos ⟨Int32.not_lt.mp h91, hB⟩]; done) | (rw [hs, if_pos ⟨Int32.not_lt.mp h91, hB⟩]; rfl)) (by first | (rw [he]; done) | (rw [hs, if_neg (fun q => hB q.2)]; done) | (rw [hs, if_pos ⟨Int32.not_lt.mp h91, hB⟩]; done) | (rw [hs, if_pos ⟨Int32.not_lt.mp h91, hB⟩]; rfl)) (by first | (rw [he]; done) | (rw [hs, if_neg (fun q => hB q.2)]; done) | (rw [hs, if_pos ⟨Int32.not_lt.mp h91, hB⟩]; done) | (rw [hs, if_pos ⟨Int32.not_lt.mp h91, hB⟩]; rfl))
      exact LP33 _ 0 0 0 0 none none none rfl (by omega) rfl z1.symm z2.symm
    · exact absurd h2 h16

theorem asl_s {n k : Nat} {c : Int32} : asl n c (k + 1) = asl n c k + (if nI k < c then 0 else wys n k) := rfl
theorem wys_s {n k : Nat} : wys n (k + 1) = wys n k * (nI n - nI k).toInt64 / (nI k + 1).toInt64 := rfl
/-- halved while both are even -/
def hv : Nat → Int64 → Int64 → Int64 × Int64
  | 0, u, l => (u, l)
  | f + 1, u, l => if u - u / 2 * 2 = 0 ∧ l - l / 2 * 2 = 0 then hv f (u / 2) (l / 2) else (u, l)
theorem hv_s {f : Nat} {u l : Int64} : hv (f + 1) u l = if u - u / 2 * 2 = 0 ∧ l - l / 2 * 2 = 0 then hv f (u / 2) (l / 2) else (u, l) := rfl
theorem hv_ok : ∀ n, n < 9 → ∀ c, c < 9 → (hv n (asl n (nI c) (n + 1)) ((1 : Int64) <<< ((nI n).toInt64 &&& 63))).1 = fls n (nI c) 0 ∧ (hv n (asl n (nI c) (n + 1)) ((1 : Int64) <<< ((nI n).toInt64 &&& 63))).2 = fls n (nI c) 1 := by decide +kernel
theorem min8 : ∀ m, m < 17 → (if nI m < 8 then nI m else 8) = nI (min 8 m) := by decide +kernel

def rmX11_waysOfAtLeast : Room := { frames := 0, cells := 0, slots := 0, locals := 0 }
set_option maxHeartbeats 4000000 in
set_option maxRecDepth 100000 in
theorem c_X11_waysOfAtLeast {n : Nat} {c : Int32} (hn : n ≤ 8) : SD mX11_waysOfAtLeast rmX11_waysOfAtLeast [.int c, .int (nI n)] (some (.long (asl n c (n + 1)))) := by
  intro M
  refine am_of rfl rfl (ls := [some (.int c), some (.int (nI n)), none, none, none, none, none]) rfl ?_
  refine aw_lc0 0 dX11_waysOfAtLeast_0 ?_
  refine aw_lstore2 1 dX11_waysOfAtLeast_1 rfl ?_
  refine aw_lc1 2 dX11_waysOfAtLeast_2 ?_
  refine aw_lstore4 3 dX11_waysOfAtLeast_3 rfl ?_
  refine aw_ic0 5 dX11_waysOfAtLeast_5 ?_
  refine aw_istore6 6 dX11_waysOfAtLeast_6 rfl ?_
  have LP8 : ∀ (dd : Nat) (k : Nat), n + 1 - k = dd → (k ≤ n + 1) → AW mX11_waysOfAtLeast rmX11_waysOfAtLeast (fun r' M' => r' = (some (.long (asl n c (n + 1)))) ∧ M' = M) 8 [some (.int c), some (.int (nI n)), some (.long (asl n c k)), none, some (.long (wys n k)), none, some (.int (nI k))] [] M 0 0 := by
    intro dd
    induction dd using Nat.strongRecOn with
    | _ dd ih8 =>
      intro k hdd hk
      refine aw_iload6 8 dX11_waysOfAtLeast_8 ?_
      refine aw_iload1 10 dX11_waysOfAtLeast_10 ?_
      refine aw_icmp_gtN 11 47 (k) (n) dX11_waysOfAtLeast_11 (by decide) rfl rfl (by omega) (by omega) (fun h11 => ?_) (fun h11 => ?_)
      · have he : k = n + 1 := by omega
        subst he
        refine aw_lload2 47 dX11_waysOfAtLeast_47 ?_
        refine aw_lret 48 dX11_waysOfAtLeast_48 rfl (Nat.zero_le _) (Nat.zero_le _) ?_
        exact ⟨rfl, rfl⟩
      · refine aw_iload6 14 dX11_waysOfAtLeast_14 ?_
        refine aw_iload0 16 dX11_waysOfAtLeast_16 ?_
        refine aw_icmp_lt 17 25 dX11_waysOfAtLeast_17 (by decide) (fun h17 => ?_) (fun h17 => ?_)
        · rw [show asl n c k = asl n c (k + 1) by rw [asl_s, if_pos h17, Int64.add_zero]]
          refine aw_lload4 25 dX11_waysOfAtLeast_25 ?_
          refine aw_iload1 27 dX11_waysOfAtLeast_27 ?_
          refine aw_iload6 28 dX11_waysOfAtLeast_28 ?_
          refine aw_isubN 30 (n) (k) dX11_waysOfAtLeast_30 rfl rfl (by omega) ?_
          rw [← nI_sub' (show k ≤ n by omega)]
          refine aw_i2l 31 dX11_waysOfAtLeast_31 ?_
          refine aw_lmul 32 dX11_waysOfAtLeast_32 ?_
          refine aw_iload6 33 dX11_waysOfAtLeast_33 ?_
          refine aw_ic1 35 dX11_waysOfAtLeast_35 ?_
          refine aw_iaddN 36 (k) (1) dX11_waysOfAtLeast_36 rfl rfl ?_
          rw [← nI_1]
          refine aw_i2l 37 dX11_waysOfAtLeast_37 ?_
          refine aw_ldiv 38 dX11_waysOfAtLeast_38 (k1_ne (by omega)) ?_
          rw [← wys_s]
          refine aw_lstore4 39 dX11_waysOfAtLeast_39 rfl ?_
          refine aw_iinc6 41 (nI (k + 1)) dX11_waysOfAtLeast_41 (nI_1 _) rfl ?_
          refine aw_goto 44 8 dX11_waysOfAtLeast_44 (by decide) ?_
          exact ih8 _ (by omega) (k + 1) rfl (by omega)
        · have he : asl n c k + wys n k = asl n c (k + 1) := by rw [asl_s, if_neg h17]
          refine aw_lload2 20 dX11_waysOfAtLeast_20 ?_
          refine aw_lload4 21 dX11_waysOfAtLeast_21 ?_
          refine aw_ladd 23 dX11_waysOfAtLeast_23 ?_
          rw [he]
          refine aw_lstore2 24 dX11_waysOfAtLeast_24 rfl ?_
          refine aw_lload4 25 dX11_waysOfAtLeast_25 ?_
          refine aw_iload1 27 dX11_waysOfAtLeast_27 ?_
          refine aw_iload6 28 dX11_waysOfAtLeast_28 ?_
          refine aw_isubN 30 (n) (k) dX11_waysOfAtLeast_30 rfl rfl (by omega) ?_
          rw [← nI_sub' (show k ≤ n by omega)]
          refine aw_i2l 31 dX11_waysOfAtLeast_31 ?_
          refine aw_lmul 32 dX11_waysOfAtLeast_32 ?_
          refine aw_iload6 33 dX11_waysOfAtLeast_33 ?_
          refine aw_ic1 35 dX11_waysOfAtLeast_35 ?_
          refine aw_iaddN 36 (k) (1) dX11_waysOfAtLeast_36 rfl rfl ?_
          rw [← nI_1]
          refine aw_i2l 37 dX11_waysOfAtLeast_37 ?_
          refine aw_ldiv 38 dX11_waysOfAtLeast_38 (k1_ne (by omega)) ?_
          rw [← wys_s]
          refine aw_lstore4 39 dX11_waysOfAtLeast_39 rfl ?_
          refine aw_iinc6 41 (nI (k + 1)) dX11_waysOfAtLeast_41 (nI_1 _) rfl ?_
          refine aw_goto 44 8 dX11_waysOfAtLeast_44 (by decide) ?_
          exact ih8 _ (by omega) (k + 1) rfl (by omega)
  exact LP8 _ 0 rfl (by omega)

def rmX11_falsely : Room := { frames := 4, cells := 0, slots := 0, locals := 87 }
set_option maxHeartbeats 4000000 in
set_option maxRecDepth 100000 in
theorem n_X11_falsely {M0 : Mem} {τ : TT} {α : AT} {v m w : Int32} (hC : CW τ α M0) (hno : ¬ ir v (nP τ)) : CK mX11_falsely rmX11_falsely [.int v, .int m, .int w] M0 (.long (-9223372036854775808)) (τ) := by
  refine am_of rfl rfl (ls := [some (.ref 2), some (.int v), some (.int m), some (.int w), none, none, none, none, none, none, none]) rfl ?_
  suffices HH : ∀ M, (CW τ α M) → (Kr M0 M) → AW mX11_falsely rmX11_falsely (fun r' M' => r' = (some (.long (-9223372036854775808))) ∧ (fun M2 => Kr M0 M2 ∧ ∃ α2, CW (τ) α2 M2) M') 0 [some (.ref 2), some (.int v), some (.int m), some (.int w), none, none, none, none, none, none, none] [] M 0 0 from HH M0 hC (Kr.rf _)
  intro M hC hR
  refine aw_aload0 0 dX11_falsely_0 ?_
  refine aw_iload1 1 dX11_falsely_1 ?_
  refine cr_v1 2 dX11_falsely_2 (n_X11_pictureAt hC hno) ckV_RX11_106 cd_X11_pictureAt hC.xo.1 vc11 rfl rfl (Nat.le_of_ble_eq_true rfl) ⟨⟨by decide, by decide⟩, by decide, by decide⟩ rfl ?_
  refine aw_astoreN4 5 dX11_falsely_5 rfl ?_
  refine aw_aloadN4 7 dX11_falsely_7 ?_
  refine aw_ifnullN 9 28 dX11_falsely_9 (by decide) ?_
  refine aw_ldc2 28 (-9223372036854775808) dX11_falsely_28 ckL_RX11_251 ?_
  refine aw_lret 31 dX11_falsely_31 rfl (Nat.zero_le _) (Nat.zero_le _) ?_
  exact ⟨rfl, hR, α, hC⟩

set_option maxHeartbeats 4000000 in
set_option maxRecDepth 100000 in
theorem n2_X11_falsely {M0 : Mem} {τ : TT} {α : AT} {p : Nat} {m w : Int32} (hC : CW τ α M0) (hp : p < nP τ) (hno : ¬ irg m 0 255 ∨ ¬ irg w 0 1) : CK mX11_falsely rmX11_falsely [.int (nI p), .int m, .int w] M0 (.long (-9223372036854775808)) (τ) := by
  refine am_of rfl rfl (ls := [some (.ref 2), some (.int (nI p)), some (.int m), some (.int w), none, none, none, none, none, none, none]) rfl ?_
  suffices HH : ∀ M, (CW τ α M) → (Kr M0 M) → AW mX11_falsely rmX11_falsely (fun r' M' => r' = (some (.long (-9223372036854775808))) ∧ (fun M2 => Kr M0 M2 ∧ ∃ α2, CW (τ) α2 M2) M') 0 [some (.ref 2), some (.int (nI p)), some (.int m), some (.int w), none, none, none, none, none, none, none] [] M 0 0 from HH M0 hC (Kr.rf _)
  intro M hC hR
  refine aw_aload0 0 dX11_falsely_0 ?_
  refine aw_iload1 1 dX11_falsely_1 ?_
  refine cr_v1 2 dX11_falsely_2 (c_X11_pictureAt hC hp) ckV_RX11_106 cd_X11_pictureAt hC.xo.1 vc11 rfl rfl (Nat.le_of_ble_eq_true rfl) ⟨⟨by decide, by decide⟩, by decide, by decide⟩ rfl ?_
  refine aw_astore4 5 dX11_falsely_5 rfl ?_
  refine aw_aload4 7 dX11_falsely_7 ?_
  refine aw_ifnull 9 dX11_falsely_9 ?_
  refine aw_iload2 12 dX11_falsely_12 ?_
  refine cr_s1 13 dX11_falsely_13 (cr_sd c_X11_isMark) ckS_RX11_242 cd_X11_isMark rfl (Nat.le_of_ble_eq_true rfl) ⟨⟨by decide, by decide⟩, by decide, by decide⟩ rfl ?_
  refine aw_ifeq_b 16 28 dX11_falsely_16 (by decide) (fun h16 => ?_) (fun h16 => ?_)
  · refine aw_ldc2 28 (-9223372036854775808) dX11_falsely_28 ckL_RX11_251 ?_
    refine aw_lret 31 dX11_falsely_31 rfl (Nat.zero_le _) (Nat.zero_le _) ?_
    exact ⟨rfl, hR, α, hC⟩
  · refine aw_iload3 19 dX11_falsely_19 ?_
    refine aw_ic0 20 dX11_falsely_20 ?_
    refine aw_ic1 21 dX11_falsely_21 ?_
    refine cr_s1 22 dX11_falsely_22 (cr_sd (c_isInZ (0) (1) (by decide) (by decide))) ckS_RX11_72 cd_X11_isIn rfl (Nat.le_of_ble_eq_true rfl) ⟨⟨by decide, by decide⟩, by decide, by decide⟩ rfl ?_
    refine aw_ifne_b 25 32 dX11_falsely_25 (by decide) (fun h25 => ?_) (fun h25 => ?_)
    · exact (hno.elim (fun q => q h16) (fun q => q h25)).elim
    · refine aw_ldc2 28 (-9223372036854775808) dX11_falsely_28 ckL_RX11_251 ?_
      refine aw_lret 31 dX11_falsely_31 rfl (Nat.zero_le _) (Nat.zero_le _) ?_
      exact ⟨rfl, hR, α, hC⟩

set_option maxHeartbeats 4000000 in
set_option maxRecDepth 100000 in
theorem c_X11_falsely {M0 : Mem} {τ : TT} {α : AT} {p : Nat} {m w : Int32} (hC : CW τ α M0) (hp : p < nP τ) (hm : irg m 0 255) (hw : irg w 0 1) : CK mX11_falsely rmX11_falsely [.int (nI p), .int m, .int w] M0 (.long (fls (min 8 (wd τ p * hg τ p)) (fnd τ p m (min 8 (wd τ p * hg τ p))) w)) (τ) := by
  refine am_of rfl rfl (ls := [some (.ref 2), some (.int (nI p)), some (.int m), some (.int w), none, none, none, none, none, none, none]) rfl ?_
  suffices HH : ∀ M, (CW τ α M) → (Kr M0 M) → AW mX11_falsely rmX11_falsely (fun r' M' => r' = (some (.long (fls (min 8 (wd τ p * hg τ p)) (fnd τ p m (min 8 (wd τ p * hg τ p))) w))) ∧ (fun M2 => Kr M0 M2 ∧ ∃ α2, CW (τ) α2 M2) M') 0 [some (.ref 2), some (.int (nI p)), some (.int m), some (.int w), none, none, none, none, none, none, none] [] M 0 0 from HH M0 hC (Kr.rf _)
  intro M hC hR
  have w1 := hC.wp.2 p hp
  have hmu := wmul w1.1.2.1 w1.2.2.1
  have hmn := min8 (wd τ p * hg τ p) (by omega)
  have hfn := fnd_eq hC.wp hC.sq hp (m := m)
  suffices HH2 : ∀ n, n ≤ 8 → min 8 (wd τ p * hg τ p) = n → AW mX11_falsely rmX11_falsely (fun r' M' => r' = (some (.long (fls (min 8 (wd τ p * hg τ p)) (fnd τ p m (min 8 (wd τ p * hg τ p))) w))) ∧ (fun M2 => Kr M0 M2 ∧ ∃ α2, CW (τ) α2 M2) M') 0 [some (.ref 2), some (.int (nI p)), some (.int m), some (.int w), none, none, none, none, none, none, none] [] M 0 0 from HH2 _ (by omega) rfl
  intro n hn8 hne
  rw [hne] at hmn hfn
  obtain ⟨cf, hcf, hcf2⟩ := fnd_nat (τ := τ) (p := p) (m := m) n
  have hvk := hv_ok n (by omega) cf (by omega)
  rw [← hcf2] at hvk
  refine aw_aload0 0 dX11_falsely_0 ?_
  refine aw_iload1 1 dX11_falsely_1 ?_
  refine cr_v1 2 dX11_falsely_2 (c_X11_pictureAt hC hp) ckV_RX11_106 cd_X11_pictureAt hC.xo.1 vc11 rfl rfl (Nat.le_of_ble_eq_true rfl) ⟨⟨by decide, by decide⟩, by decide, by decide⟩ rfl ?_
  refine aw_astore4 5 dX11_falsely_5 rfl ?_
  refine aw_aload4 7 dX11_falsely_7 ?_
  refine aw_ifnull 9 dX11_falsely_9 ?_
  refine aw_iload2 12 dX11_falsely_12 ?_
  refine cr_s1 13 dX11_falsely_13 (cr_sd c_X11_isMark) ckS_RX11_242 cd_X11_isMark rfl (Nat.le_of_ble_eq_true rfl) ⟨⟨by decide, by decide⟩, by decide, by decide⟩ rfl ?_
  refine aw_ifeq_b 16 28 dX11_falsely_16 (by decide) (fun h16 => ?_) (fun h16 => ?_)
  · exact absurd hm h16
  · refine aw_iload3 19 dX11_falsely_19 ?_
    refine aw_ic0 20 dX11_falsely_20 ?_
    refine aw_ic1 21 dX11_falsely_21 ?_
    refine cr_s1 22 dX11_falsely_22 (cr_sd (c_isInZ (0) (1) (by decide) (by decide))) ckS_RX11_72 cd_X11_isIn rfl (Nat.le_of_ble_eq_true rfl) ⟨⟨by decide, by decide⟩, by decide, by decide⟩ rfl ?_
    refine aw_ifne_b 25 32 dX11_falsely_25 (by decide) (fun h25 => ?_) (fun h25 => ?_)
    · refine aw_bipush 32 8 dX11_falsely_32 (by decide) ?_
      refine aw_aload4 34 dX11_falsely_34 ?_
      refine aw_get 36 dX11_falsely_36 ckF_RX11_110_3 (hC.pc p hp).2.2.2.1 ((hC.pc p hp).2.2.2.2.2.2.1.trans (congrArg Value.int (hC.wp.2 p hp).1.2.2)) ?_
      refine aw_aload4 39 dX11_falsely_39 ?_
      refine aw_get 41 dX11_falsely_41 ckF_RX11_113_3 (hC.pc p hp).2.2.2.1 ((hC.pc p hp).2.2.2.2.2.2.2.1.trans (congrArg Value.int (hC.wp.2 p hp).2.2.2)) ?_
      refine aw_imulN 44 (wd τ p) (hg τ p) dX11_falsely_44 rfl rfl ?_
      refine aw_min 45 dX11_falsely_45 ckM_RX11_253 (Nat.le_of_ble_eq_true rfl) (by decide) (by decide) (Nat.zero_le _) (Nat.zero_le _) ?_
      refine aw_topi hmn ?_
      refine aw_istore5 48 dX11_falsely_48 rfl ?_
      refine aw_aload4 50 dX11_falsely_50 ?_
      refine aw_iload2 52 dX11_falsely_52 ?_
      refine cr_v1 53 dX11_falsely_53 (c_X3_agreement (hC.pc p hp).2.2.2) ckV_RX11_248 cd_X3_agreement (hC.pc p hp).2.2.2.1 vc3 rfl rfl (Nat.le_of_ble_eq_true rfl) ⟨⟨by decide, by decide⟩, by decide, by decide⟩ rfl ?_
      rw [hfn]
      refine aw_iload5 56 dX11_falsely_56 ?_
      refine cr_s1 58 dX11_falsely_58 (cr_sd (c_X11_waysOfAtLeast hn8)) ckS_RX11_258 cd_X11_waysOfAtLeast rfl (Nat.le_of_ble_eq_true rfl) ⟨⟨by decide, by decide⟩, by decide, by decide⟩ rfl ?_
      refine aw_lstore6 61 dX11_falsely_61 rfl ?_
      refine aw_lc1 63 dX11_falsely_63 ?_
      refine aw_iload5 64 dX11_falsely_64 ?_
      refine aw_lshl 66 dX11_falsely_66 ?_
      refine aw_lstore8 67 dX11_falsely_67 rfl ?_
      refine aw_ic0 69 dX11_falsely_69 ?_
      refine aw_istore10 70 dX11_falsely_70 rfl ?_
      have LP72 : ∀ (dd : Nat) (k : Nat) (u l : Int64), n - k = dd → (k ≤ n) → (hv n (asl n (fnd τ p m n) (n + 1)) ((1 : Int64) <<< ((nI n).toInt64 &&& 63)) = hv (n - k) u l) → AW mX11_falsely rmX11_falsely (fun r' M' => r' = (some (.long (fls (min 8 (wd τ p * hg τ p)) (fnd τ p m (min 8 (wd τ p * hg τ p))) w))) ∧ (fun M2 => Kr M0 M2 ∧ ∃ α2, CW (τ) α2 M2) M') 72 [some (.ref 2), some (.int (nI p)), some (.int m), some (.int w), some (.ref (α 0 p)), some (.int (nI n)), some (.long u), none, some (.long l), none, some (.int (nI k))] [] M 0 0 := by
        intro dd
        induction dd using Nat.strongRecOn with
        | _ dd ih72 =>
          intro k u l hdd hk hh
          refine aw_iload10 72 dX11_falsely_72 ?_
          refine aw_iload5 74 dX11_falsely_74 ?_
          refine aw_icmp_geN 76 123 (k) (n) dX11_falsely_76 (by decide) rfl rfl (by omega) (by omega) (fun h76 => ?_) (fun h76 => ?_)
          · rw [show n - k = 0 by omega] at hh
            have hh : hv n (asl n (fnd τ p m n) (n + 1)) ((1 : Int64) <<< ((nI n).toInt64 &&& 63)) = (u, l) := hh
            refine aw_iload3 123 dX11_falsely_123 ?_
            refine aw_if_ne 124 132 dX11_falsely_124 (by decide) (fun h124 => ?_) (fun h124 => ?_)
            · refine aw_lload8 132 dX11_falsely_132 ?_
              refine aw_lret 134 dX11_falsely_134 rfl (Nat.zero_le _) (Nat.zero_le _) ?_
              refine ⟨?_, hR, α, hC⟩
              rw [hh] at hvk
              rw [hne]
              first
                | (rw [h124, ← hvk.1]; done)
                | (have e1 : w = 1 := by
                     obtain ⟨j, j1, rfl⟩ := irg_of (b := 1) (by decide) hw
                     rcases (show j = 0 ∨ j = 1 by omega) with rfl | rfl
                     · exact absurd rfl h124
                     · rfl
                   rw [e1, ← hvk.2]; done)
            · refine aw_lload6 127 dX11_falsely_127 ?_
              refine aw_goto 129 134 dX11_falsely_129 (by decide) ?_
              refine aw_lret 134 dX11_falsely_134 rfl (Nat.zero_le _) (Nat.zero_le _) ?_
              refine ⟨?_, hR, α, hC⟩
              rw [hh] at hvk
              rw [hne]
              first
                | (rw [h124, ← hvk.1]; done)
                | (have e1 : w = 1 := by
                     obtain ⟨j, j1, rfl⟩ := irg_of (b := 1) (by decide) hw
                     rcases (show j = 0 ∨ j = 1 by omega) with rfl | rfl
                     · exact absurd rfl h124
                     · rfl
                   rw [e1, ← hvk.2]; done)
          · rw [show n - k = (n - k - 1) + 1 by omega] at hh
            replace hh := hh.trans hv_s
            refine aw_lload6 79 dX11_falsely_79 ?_
            refine aw_ldc2 81 (2) dX11_falsely_81 ckL_RX11_262 ?_
            refine aw_lrem 84 dX11_falsely_84 (by decide) ?_
            refine aw_lc0 85 dX11_falsely_85 ?_
            refine aw_lcmp 86 dX11_falsely_86 ?_
            refine aw_if_ne 87 123 dX11_falsely_87 (by decide) (fun h87 => ?_) (fun h87 => ?_)
            · rw [if_neg (fun q => h87 (lc_eq.mpr q.1))] at hh
              refine aw_iload3 123 dX11_falsely_123 ?_
              refine aw_if_ne 124 132 dX11_falsely_124 (by decide) (fun h124 => ?_) (fun h124 => ?_)
              · refine aw_lload8 132 dX11_falsely_132 ?_
                refine aw_lret 134 dX11_falsely_134 rfl (Nat.zero_le _) (Nat.zero_le _) ?_
                refine ⟨?_, hR, α, hC⟩
                rw [hh] at hvk
                rw [hne]
                first
                  | (rw [h124, ← hvk.1]; done)
                  | (have e1 : w = 1 := by
                       obtain ⟨j, j1, rfl⟩ := irg_of (b := 1) (by decide) hw
                       rcases (show j = 0 ∨ j = 1 by omega) with rfl | rfl
                       · exact absurd rfl h124
                       · rfl
                     rw [e1, ← hvk.2]; done)
              · refine aw_lload6 127 dX11_falsely_127 ?_
                refine aw_goto 129 134 dX11_falsely_129 (by decide) ?_
                refine aw_lret 134 dX11_falsely_134 rfl (Nat.zero_le _) (Nat.zero_le _) ?_
                refine ⟨?_, hR, α, hC⟩
                rw [hh] at hvk
                rw [hne]
                first
                  | (rw [h124, ← hvk.1]; done)
                  | (have e1 : w = 1 := by
                       obtain ⟨j, j1, rfl⟩ := irg_of (b := 1) (by decide) hw
                       rcases (show j = 0 ∨ j = 1 by omega) with rfl | rfl
                       · exact absurd rfl h124
                       · rfl
                     rw [e1, ← hvk.2]; done)
            · refine aw_lload8 90 dX11_falsely_90 ?_
              refine aw_ldc2 92 (2) dX11_falsely_92 ckL_RX11_262 ?_
              refine aw_lrem 95 dX11_falsely_95 (by decide) ?_
              refine aw_lc0 96 dX11_falsely_96 ?_
              refine aw_lcmp 97 dX11_falsely_97 ?_
              refine aw_if_ne 98 123 dX11_falsely_98 (by decide) (fun h98 => ?_) (fun h98 => ?_)
              · rw [if_neg (fun q => h98 (lc_eq.mpr q.2))] at hh
                refine aw_iload3 123 dX11_falsely_123 ?_
                refine aw_if_ne 124 132 dX11_falsely_124 (by decide) (fun h124 => ?_) (fun h124 => ?_)
                · refine aw_lload8 132 dX11_falsely_132 ?_
                  refine aw_lret 134 dX11_falsely_134 rfl (Nat.zero_le _) (Nat.zero_le _) ?_
                  refine ⟨?_, hR, α, hC⟩
                  rw [hh] at hvk
                  rw [hne]
                  first
                    | (rw [h124, ← hvk.1]; done)
                    | (have e1 : w = 1 := by
                         obtain ⟨j, j1, rfl⟩ := irg_of (b := 1) (by decide) hw
                         rcases (show j = 0 ∨ j = 1 by omega) with rfl | rfl
                         · exact absurd rfl h124
                         · rfl
                       rw [e1, ← hvk.2]; done)
                · refine aw_lload6 127 dX11_falsely_127 ?_
                  refine aw_goto 129 134 dX11_falsely_129 (by decide) ?_
                  refine aw_lret 134 dX11_falsely_134 rfl (Nat.zero_le _) (Nat.zero_le _) ?_
                  refine ⟨?_, hR, α, hC⟩
                  rw [hh] at hvk
                  rw [hne]
                  first
                    | (rw [h124, ← hvk.1]; done)
                    | (have e1 : w = 1 := by
                         obtain ⟨j, j1, rfl⟩ := irg_of (b := 1) (by decide) hw
                         rcases (show j = 0 ∨ j = 1 by omega) with rfl | rfl
                         · exact absurd rfl h124
                         · rfl
                       rw [e1, ← hvk.2]; done)
              · rw [if_pos ⟨lc_eq.mp h87, lc_eq.mp h98⟩] at hh
                refine aw_lload6 101 dX11_falsely_101 ?_
                refine aw_ldc2 103 (2) dX11_falsely_103 ckL_RX11_262 ?_
                refine aw_ldiv 106 dX11_falsely_106 (by decide) ?_
                refine aw_lstore6 107 dX11_falsely_107 rfl ?_
                refine aw_lload8 109 dX11_falsely_109 ?_
                refine aw_ldc2 111 (2) dX11_falsely_111 ckL_RX11_262 ?_
                refine aw_ldiv 114 dX11_falsely_114 (by decide) ?_
                refine aw_lstore8 115 dX11_falsely_115 rfl ?_
                refine aw_iinc10 117 (nI (k + 1)) dX11_falsely_117 (nI_1 _) rfl ?_
                refine aw_goto 120 72 dX11_falsely_120 (by decide) ?_
                exact ih72 _ (by omega) (k + 1) (u / 2) (l / 2) rfl (by omega) (by rw [hh, show n - (k + 1) = n - k - 1 by omega])
      exact LP72 _ 0 _ _ rfl (by omega) rfl
    · exact absurd hw h25

