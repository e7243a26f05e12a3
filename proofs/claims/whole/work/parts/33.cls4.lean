/-! the class: the workshop (gen/cls4.py) -/
def WKS (M : Mem) (n : Int32) (q : Value) (w h : Int32) (g : Nat → Int32) : Prop := M.2.1 12 = (10, 2) ∧ M.2.2 12 0 = .ref 13 ∧ M.2.2 12 1 = .ref 15 ∧ M.2.1 15 = (20, 16) ∧ PV M 13 n w h g q
abbrev SW (c : Nat) : Prop := c = 13 ∨ c = 14 ∨ c = 15
theorem WKS.pv {M : Mem} {n : Int32} {q : Value} {w h : Int32} {g : Nat → Int32} (p : WKS M n q w h g) : PV M 13 n w h g q := p.2.2.2.2
theorem WKS.spare {M M' : Mem} {n : Int32} {q : Value} {w h : Int32} {g : Nat → Int32} (p : WKS M n q w h g) (f : Wd 15 M M') : WKS M' n q w h g := by
  have e := f.2.2 12 (by decide)
  exact ⟨by rw [f.2.1]; exact p.1, by rw [e]; exact p.2.1, by rw [e]; exact p.2.2.1, by rw [f.2.1]; exact p.2.2.2.1, p.pv.frs (f.toFrS (S := fun b => b = 15) rfl) (by decide) (by decide)⟩
theorem WKS.bench {M M' : Mem} {n : Int32} {q : Value} {w h w2 h2 : Int32} {g g2 : Nat → Int32} (p : WKS M n q w h g) (f : FrS (fun c => c = 13 ∨ c = 13 + 1) M M') (v : PV M' 13 n w2 h2 g2 q) : WKS M' n q w2 h2 g2 := by
  have e := f.2.2 12 (by decide)
  exact ⟨by rw [f.2.1]; exact p.1, by rw [e]; exact p.2.1, by rw [e]; exact p.2.2.1, by rw [f.2.1]; exact p.2.2.2.1, v⟩
theorem WKS.sq {M M' : Mem} {n : Int32} {q : Value} {w h : Int32} {g g2 : Nat → Int32} (p : WKS M n q w h g) (f : Wd 14 M M') (hA : AR M' 14 16 g2) : WKS M' n q w h g2 := p.bench (f.toFrS (Or.inr rfl)) (p.pv.sqs f hA)
theorem WKS.to {M : Mem} {n : Int32} {q : Value} {w h : Int32} {g g' : Nat → Int32} (p : WKS M n q w h g) (he : ∀ k, k < 16 → g k = g' k) : WKS M n q w h g' := ⟨p.1, p.2.1, p.2.2.1, p.2.2.2.1, p.pv.to he⟩
theorem FrS.b13 {M M' : Mem} (h : FrS (fun c => c = 13 ∨ c = 13 + 1) M M') : FrS SW M M' := h.mono (fun a q => by unfold SW; omega)

def rmX10_holds : Room := { frames := 0, cells := 0, slots := 0, locals := 0 }
set_option maxHeartbeats 4000000 in
set_option maxRecDepth 100000 in
theorem c_X10_holds {M : Mem} {n : Int32} {q : Value} {g : Nat → Int32} {x y w h W H : Nat} (hK : WKS M n q (nI W) (nI H) g) (h9 : x ≤ 9 ∧ y ≤ 9 ∧ w ≤ 9 ∧ h ≤ 9) (hWH : W ≤ 4 ∧ H ≤ 4) : CR mX10_holds rmX10_holds [.ref 12, .int (nI x), .int (nI y), .int (nI w), .int (nI h)] M (some (.int (bi (1 ≤ w ∧ 1 ≤ h ∧ x + w ≤ W ∧ y + h ≤ H)))) := by
  refine am_of rfl rfl (ls := [some (.ref 12), some (.int (nI x)), some (.int (nI y)), some (.int (nI w)), some (.int (nI h))]) rfl ?_
  refine aw_iload3 0 dX10_holds_0 ?_
  refine aw_ic1 1 dX10_holds_1 ?_
  refine aw_icmp_ltN 2 42 (w) (1) dX10_holds_2 (by decide) rfl rfl (by omega) (by omega) (fun h2 => ?_) (fun h2 => ?_)
  · refine aw_ic0 42 dX10_holds_42 ?_
    refine aw_zret 43 dX10_holds_43 rfl (by first | rfl | exact bi_nar | decide) (Nat.zero_le _) (Nat.zero_le _) ?_
    refine ⟨?_, rfl⟩
    first
      | (rw [bi_t (And.intro h2 (And.intro h8 (And.intro h21 h35)))]; done)
      | (rw [bi_f (fun z => absurd z.1 (Nat.not_le.mpr h2))]; done)
      | (rw [bi_f (fun z => absurd z.2.1 (Nat.not_le.mpr h8))]; done)
      | (rw [bi_f (fun z => absurd z.2.2.1 (Nat.not_le.mpr h21))]; done)
      | (rw [bi_f (fun z => absurd z.2.2.2 (Nat.not_le.mpr h35))]; done)
  · refine aw_iload4 5 dX10_holds_5 ?_
    refine aw_ic1 7 dX10_holds_7 ?_
    refine aw_icmp_ltN 8 42 (h) (1) dX10_holds_8 (by decide) rfl rfl (by omega) (by omega) (fun h8 => ?_) (fun h8 => ?_)
    · refine aw_ic0 42 dX10_holds_42 ?_
      refine aw_zret 43 dX10_holds_43 rfl (by first | rfl | exact bi_nar | decide) (Nat.zero_le _) (Nat.zero_le _) ?_
      refine ⟨?_, rfl⟩
      first
        | (rw [bi_t (And.intro h2 (And.intro h8 (And.intro h21 h35)))]; done)
        | (rw [bi_f (fun z => absurd z.1 (Nat.not_le.mpr h2))]; done)
        | (rw [bi_f (fun z => absurd z.2.1 (Nat.not_le.mpr h8))]; done)
        | (rw [bi_f (fun z => absurd z.2.2.1 (Nat.not_le.mpr h21))]; done)
        | (rw [bi_f (fun z => absurd z.2.2.2 (Nat.not_le.mpr h35))]; done)
    · refine aw_iload1 11 dX10_holds_11 ?_
      refine aw_iload3 12 dX10_holds_12 ?_
      refine aw_iaddN 13 (x) (w) dX10_holds_13 rfl rfl ?_
      refine aw_aload0 14 dX10_holds_14 ?_
      refine aw_get 15 dX10_holds_15 ckF_RX10_14_10 hK.1 hK.2.1 ?_
      refine aw_get 18 dX10_holds_18 ckF_RX10_51_3 hK.pv.1 hK.pv.2.2.2.1 ?_
      refine aw_icmp_gtN 21 42 (x + w) (W) dX10_holds_21 (by decide) rfl rfl (by omega) (by omega) (fun h21 => ?_) (fun h21 => ?_)
      · refine aw_ic0 42 dX10_holds_42 ?_
        refine aw_zret 43 dX10_holds_43 rfl (by first | rfl | exact bi_nar | decide) (Nat.zero_le _) (Nat.zero_le _) ?_
        refine ⟨?_, rfl⟩
        first
          | (rw [bi_t (And.intro h2 (And.intro h8 (And.intro h21 h35)))]; done)
          | (rw [bi_f (fun z => absurd z.1 (Nat.not_le.mpr h2))]; done)
          | (rw [bi_f (fun z => absurd z.2.1 (Nat.not_le.mpr h8))]; done)
          | (rw [bi_f (fun z => absurd z.2.2.1 (Nat.not_le.mpr h21))]; done)
          | (rw [bi_f (fun z => absurd z.2.2.2 (Nat.not_le.mpr h35))]; done)
      · refine aw_iload2 24 dX10_holds_24 ?_
        refine aw_iload4 25 dX10_holds_25 ?_
        refine aw_iaddN 27 (y) (h) dX10_holds_27 rfl rfl ?_
        refine aw_aload0 28 dX10_holds_28 ?_
        refine aw_get 29 dX10_holds_29 ckF_RX10_14_10 hK.1 hK.2.1 ?_
        refine aw_get 32 dX10_holds_32 ckF_RX10_47_3 hK.pv.1 hK.pv.2.2.2.2.1 ?_
        refine aw_icmp_gtN 35 42 (y + h) (H) dX10_holds_35 (by decide) rfl rfl (by omega) (by omega) (fun h35 => ?_) (fun h35 => ?_)
        · refine aw_ic0 42 dX10_holds_42 ?_
          refine aw_zret 43 dX10_holds_43 rfl (by first | rfl | exact bi_nar | decide) (Nat.zero_le _) (Nat.zero_le _) ?_
          refine ⟨?_, rfl⟩
          first
            | (rw [bi_t (And.intro h2 (And.intro h8 (And.intro h21 h35)))]; done)
            | (rw [bi_f (fun z => absurd z.1 (Nat.not_le.mpr h2))]; done)
            | (rw [bi_f (fun z => absurd z.2.1 (Nat.not_le.mpr h8))]; done)
            | (rw [bi_f (fun z => absurd z.2.2.1 (Nat.not_le.mpr h21))]; done)
            | (rw [bi_f (fun z => absurd z.2.2.2 (Nat.not_le.mpr h35))]; done)
        · refine aw_ic1 38 dX10_holds_38 ?_
          refine aw_goto 39 43 dX10_holds_39 (by decide) ?_
          refine aw_zret 43 dX10_holds_43 rfl (by first | rfl | exact bi_nar | decide) (Nat.zero_le _) (Nat.zero_le _) ?_
          refine ⟨?_, rfl⟩
          first
            | (rw [bi_t (And.intro h2 (And.intro h8 (And.intro h21 h35)))]; done)
            | (rw [bi_f (fun z => absurd z.1 (Nat.not_le.mpr h2))]; done)
            | (rw [bi_f (fun z => absurd z.2.1 (Nat.not_le.mpr h8))]; done)
            | (rw [bi_f (fun z => absurd z.2.2.1 (Nat.not_le.mpr h21))]; done)
            | (rw [bi_f (fun z => absurd z.2.2.2 (Nat.not_le.mpr h35))]; done)

def cuG (g : Nat → Int32) (x y w h : Nat) : Nat → Int32 := fun k => if k % 4 < w ∧ k / 4 < h then g (x + k % 4 + 4 * (y + k / 4)) else -1
def cuI (g : Nat → Int32) (x y w d a : Nat) : Nat → Int32 := fun k => if k % 4 < w ∧ (k / 4 < d ∨ (k / 4 = d ∧ k % 4 < a)) then g (x + k % 4 + 4 * (y + k / 4)) else -1
theorem cuI_up {g : Nat → Int32} {x y w d a k : Nat} (ha : a < w) (hw : w ≤ 4) : upg (cuI g x y w d a) (a + 4 * d) (g (x + a + 4 * (y + d))) k = cuI g x y w d (a + 1) k := by
  unfold upg cuI
  by_cases e : k = a + 4 * d
  · rw [if_pos e, if_pos (by omega), show k % 4 = a by omega, show k / 4 = d by omega]
  · rw [if_neg e]
    by_cases c : k % 4 < w ∧ (k / 4 < d ∨ (k / 4 = d ∧ k % 4 < a))
    · rw [if_pos c, if_pos (by omega)]
    · rw [if_neg c, if_neg (by omega)]
theorem cuI_nx {g : Nat → Int32} {x y w d a k : Nat} (ha : w ≤ a) (hd : d < 4) : cuI g x y w d a k = cuI g x y w (d + 1) 0 k := by
  unfold cuI
  by_cases c : k % 4 < w ∧ (k / 4 < d ∨ (k / 4 = d ∧ k % 4 < a))
  · rw [if_pos c, if_pos (by omega)]
  · rw [if_neg c, if_neg (by omega)]

theorem cuI_fin {g : Nat → Int32} {x y w h d k : Nat} (hd : d = h) : cuI g x y w d 0 k = cuG g x y w h k := by
  unfold cuI cuG
  by_cases c : k % 4 < w ∧ k / 4 < h
  · rw [if_pos c, if_pos (by omega)]
  · rw [if_neg c, if_neg (by omega)]

def rmX10_cutToSpare : Room := { frames := 1, cells := 0, slots := 0, locals := 23 }
set_option maxHeartbeats 4000000 in
set_option maxRecDepth 100000 in
theorem c_X10_cutToSpare {M0 : Mem} {n : Int32} {q : Value} {g : Nat → Int32} {x y w h W H : Nat} (hK : WKS M0 n q (nI W) (nI H) g) (hok : 1 ≤ w ∧ 1 ≤ h ∧ x + w ≤ W ∧ y + h ≤ H) (hWH : W ≤ 4 ∧ H ≤ 4) : AP mX10_cutToSpare rmX10_cutToSpare [.ref 12, .int (nI x), .int (nI y), .int (nI w), .int (nI h)] M0 (none) (fun M => FrS SW M0 M ∧ WKS M n q (nI W) (nI H) g ∧ AR M 15 16 (cuG g x y w h)) := by
  refine am_of rfl rfl (ls := [some (.ref 12), some (.int (nI x)), some (.int (nI y)), some (.int (nI w)), some (.int (nI h)), none, none]) rfl ?_
  suffices HH : ∀ M, (WKS M n q (nI W) (nI H) g) → (FrS SW M0 M) → AW mX10_cutToSpare rmX10_cutToSpare (fun r' M' => r' = (none) ∧ (fun M => FrS SW M0 M ∧ WKS M n q (nI W) (nI H) g ∧ AR M 15 16 (cuG g x y w h)) M') 0 [some (.ref 12), some (.int (nI x)), some (.int (nI y)), some (.int (nI w)), some (.int (nI h)), none, none] [] M 0 0 from HH M0 hK (FrS.rf _ M0)
  intro M hK hS
  refine aw_aload0 0 dX10_cutToSpare_0 ?_
  refine aw_get 1 dX10_cutToSpare_1 ckF_RX10_20_10 hK.1 hK.2.2.1 ?_
  refine aw_icm1 4 dX10_cutToSpare_4 ?_
  refine ap_s0 5 dX10_cutToSpare_5 (c_J7_fill_53178 hK.2.2.2.1 (by decide) (by decide)) ckS_RX10_63 cd_J7_fill_53178 rfl (Nat.le_of_ble_eq_true rfl) ⟨⟨by decide, by decide⟩, by decide, by decide⟩ rfl (fun M hq => ?_)
  replace hS := hS.wd hq.1 (Or.inr (Or.inr rfl))
  replace hK := hK.spare hq.1
  have hA := hq.2
  clear hq
  refine aw_ic0 8 dX10_cutToSpare_8 ?_
  refine aw_istore5 9 dX10_cutToSpare_9 rfl ?_
  have LP11 : ∀ (dd : Nat) (d : Nat) (z : Option Value) (M : Mem), h - d = dd → (d ≤ h) → (WKS M n q (nI W) (nI H) g) → (FrS SW M0 M) → (AR M 15 16 (cuI g x y w d 0)) → AW mX10_cutToSpare rmX10_cutToSpare (fun r' M' => r' = (none) ∧ (fun M => FrS SW M0 M ∧ WKS M n q (nI W) (nI H) g ∧ AR M 15 16 (cuG g x y w h)) M') 11 [some (.ref 12), some (.int (nI x)), some (.int (nI y)), some (.int (nI w)), some (.int (nI h)), some (.int (nI d)), z] [] M 0 0 := by
    intro dd
    induction dd using Nat.strongRecOn with
    | _ dd ih11 =>
      intro d z M hdd hd0 hK hS hA
      refine aw_iload5 11 dX10_cutToSpare_11 ?_
      refine aw_iload4 13 dX10_cutToSpare_13 ?_
      refine aw_icmp_geN 15 70 (d) (h) dX10_cutToSpare_15 (by decide) rfl rfl (by omega) (by omega) (fun h15 => ?_) (fun h15 => ?_)
      · refine aw_vret 70 dX10_cutToSpare_70 rfl (Nat.zero_le _) (Nat.zero_le _) ?_
        exact ⟨rfl, hS, hK, hA.to (fun k hk => cuI_fin (k := k) (by omega))⟩
      · refine aw_ic0 18 dX10_cutToSpare_18 ?_
        refine aw_istore6 19 dX10_cutToSpare_19 rfl ?_
        have LP21 : ∀ (dd : Nat) (a : Nat) (M : Mem), w - a = dd → (a ≤ w) → (WKS M n q (nI W) (nI H) g) → (FrS SW M0 M) → (AR M 15 16 (cuI g x y w d a)) → AW mX10_cutToSpare rmX10_cutToSpare (fun r' M' => r' = (none) ∧ (fun M => FrS SW M0 M ∧ WKS M n q (nI W) (nI H) g ∧ AR M 15 16 (cuG g x y w h)) M') 21 [some (.ref 12), some (.int (nI x)), some (.int (nI y)), some (.int (nI w)), some (.int (nI h)), some (.int (nI d)), some (.int (nI a))] [] M 0 0 := by
          intro dd
          induction dd using Nat.strongRecOn with
          | _ dd ih21 =>
            intro a M hdd ha0 hK hS hA
            refine aw_iload6 21 dX10_cutToSpare_21 ?_
            refine aw_iload3 23 dX10_cutToSpare_23 ?_
            refine aw_icmp_geN 24 64 (a) (w) dX10_cutToSpare_24 (by decide) rfl rfl (by omega) (by omega) (fun h24 => ?_) (fun h24 => ?_)
            · refine aw_iinc5 64 (nI (d + 1)) dX10_cutToSpare_64 (nI_1 _) rfl ?_
              refine aw_goto 67 11 dX10_cutToSpare_67 (by decide) ?_
              exact ih11 _ (by omega) (d + 1) _ M rfl (by omega) hK hS (hA.to (fun k hk => cuI_nx (by omega) (by omega)))
            · refine aw_aload0 27 dX10_cutToSpare_27 ?_
              refine aw_get 28 dX10_cutToSpare_28 ckF_RX10_20_10 hK.1 hK.2.2.1 ?_
              refine aw_iload6 31 dX10_cutToSpare_31 ?_
              refine aw_ic4 33 dX10_cutToSpare_33 ?_
              refine aw_iload5 34 dX10_cutToSpare_34 ?_
              refine aw_imulN 36 (4) (d) dX10_cutToSpare_36 rfl rfl ?_
              refine aw_iaddN 37 (a) (4 * d) dX10_cutToSpare_37 rfl rfl ?_
              refine aw_aload0 38 dX10_cutToSpare_38 ?_
              refine aw_get 39 dX10_cutToSpare_39 ckF_RX10_14_10 hK.1 hK.2.1 ?_
              refine aw_get 42 dX10_cutToSpare_42 ckF_RX10_69_3 hK.pv.1 hK.pv.2.2.1 ?_
              refine aw_iload1 45 dX10_cutToSpare_45 ?_
              refine aw_iload6 46 dX10_cutToSpare_46 ?_
              refine aw_iaddN 48 (x) (a) dX10_cutToSpare_48 rfl rfl ?_
              refine aw_ic4 49 dX10_cutToSpare_49 ?_
              refine aw_iload2 50 dX10_cutToSpare_50 ?_
              refine aw_iload5 51 dX10_cutToSpare_51 ?_
              refine aw_iaddN 53 (y) (d) dX10_cutToSpare_53 rfl rfl ?_
              refine aw_imulN 54 (4) (y + d) dX10_cutToSpare_54 rfl rfl ?_
              refine aw_iaddN 55 (x + a) (4 * (y + d)) dX10_cutToSpare_55 rfl rfl ?_
              refine ar_ld 56 ((x + a) + (4 * (y + d))) dX10_cutToSpare_56 hK.pv.2.2.2.2.2.2 rfl (show (x + a) + (4 * (y + d)) < 16 by omega) (by decide) ?_
              refine ar_st 57 (a + (4 * d)) dX10_cutToSpare_57 hA (by decide) rfl (show a + (4 * d) < 16 by omega) (by decide) (fun M hA hd => ?_)
              replace hS := hS.wd hd (Or.inr (Or.inr rfl))
              replace hK := hK.spare hd
              replace hA := hA.to (fun k hk => cuI_up (k := k) h24 (by omega))
              clear hd
              refine aw_iinc6 58 (nI (a + 1)) dX10_cutToSpare_58 (nI_1 _) rfl ?_
              refine aw_goto 61 21 dX10_cutToSpare_61 (by decide) ?_
              exact ih21 _ (by omega) (a + 1) M rfl (by omega) hK hS hA
        exact LP21 _ 0 M rfl (by omega) hK hS hA
  exact LP11 _ 0 none M rfl (by omega) hK hS (hA.to (fun k hk => by unfold cuI; rw [if_neg (by omega)]))

def blF (g : Nat → Int32) (x y w h : Nat) (s : Int32) : Nat → Int32 := fun k => if x ≤ k % 4 ∧ k % 4 < x + w ∧ y ≤ k / 4 ∧ k / 4 < y + h then s else g k
def blI (g : Nat → Int32) (x y w d a : Nat) (s : Int32) : Nat → Int32 := fun k => if x ≤ k % 4 ∧ k % 4 < x + w ∧ y ≤ k / 4 ∧ (k / 4 < y + d ∨ (k / 4 = y + d ∧ k % 4 < x + a)) then s else g k
theorem blI_up {g : Nat → Int32} {x y w d a k : Nat} {s : Int32} (ha : a < w) (hw : x + w ≤ 4) : upg (blI g x y w d a s) (x + a + 4 * (y + d)) s k = blI g x y w d (a + 1) s k := by
  unfold upg blI
  by_cases e : k = x + a + 4 * (y + d)
  · rw [if_pos e, if_pos (by omega)]
  · rw [if_neg e]
    by_cases c : x ≤ k % 4 ∧ k % 4 < x + w ∧ y ≤ k / 4 ∧ (k / 4 < y + d ∨ (k / 4 = y + d ∧ k % 4 < x + a))
    · rw [if_pos c, if_pos (by omega)]
    · rw [if_neg c, if_neg (by omega)]
theorem blI_nx {g : Nat → Int32} {x y w d a k : Nat} {s : Int32} (ha : w ≤ a) : blI g x y w d a s k = blI g x y w (d + 1) 0 s k := by
  unfold blI
  by_cases c : x ≤ k % 4 ∧ k % 4 < x + w ∧ y ≤ k / 4 ∧ (k / 4 < y + d ∨ (k / 4 = y + d ∧ k % 4 < x + a))
  · rw [if_pos c, if_pos (by omega)]
  · rw [if_neg c, if_neg (by omega)]
theorem blI_fin {g : Nat → Int32} {x y w h d k : Nat} {s : Int32} (hd : d = h) : blI g x y w d 0 s k = blF g x y w h s k := by
  unfold blI blF
  by_cases c : x ≤ k % 4 ∧ k % 4 < x + w ∧ y ≤ k / 4 ∧ k / 4 < y + h
  · rw [if_pos c, if_pos (by omega)]
  · rw [if_neg c, if_neg (by omega)]
theorem smG_s {g : Nat → Int32} {x y w d a : Nat} (ha : a < w) : smG g x y w (w * d + a) + g (x + a + 4 * (y + d)) = smG g x y w (w * d + (a + 1)) := by
  show _ = smG g x y w (w * d + a) + g (pPl x y w (w * d + a))
  unfold pPl
  rw [Nat.mul_add_mod, Nat.mod_eq_of_lt ha, Nat.mul_add_div (by omega), Nat.div_eq_of_lt ha, Nat.add_zero]

def rmX10_blur : Room := { frames := 0, cells := 0, slots := 0, locals := 0 }
set_option maxHeartbeats 4000000 in
set_option maxRecDepth 100000 in
theorem c_X10_blur {M0 : Mem} {n : Int32} {q : Value} {g : Nat → Int32} {x y w h W H : Nat} (hK : WKS M0 n q (nI W) (nI H) g) (hok : 1 ≤ w ∧ 1 ≤ h ∧ x + w ≤ W ∧ y + h ≤ H) (hWH : W ≤ 4 ∧ H ≤ 4) : AP mX10_blur rmX10_blur [.ref 12, .int (nI x), .int (nI y), .int (nI w), .int (nI h)] M0 (none) (fun M => FrS SW M0 M ∧ WKS M n q (nI W) (nI H) (blF g x y w h ((smG g x y w (w * h)) / nI (w * h)))) := by
  refine am_of rfl rfl (ls := [some (.ref 12), some (.int (nI x)), some (.int (nI y)), some (.int (nI w)), some (.int (nI h)), none, none, none]) rfl ?_
  suffices HH : ∀ M, (WKS M n q (nI W) (nI H) g) → (FrS SW M0 M) → AW mX10_blur rmX10_blur (fun r' M' => r' = (none) ∧ (fun M => FrS SW M0 M ∧ WKS M n q (nI W) (nI H) (blF g x y w h ((smG g x y w (w * h)) / nI (w * h)))) M') 0 [some (.ref 12), some (.int (nI x)), some (.int (nI y)), some (.int (nI w)), some (.int (nI h)), none, none, none] [] M 0 0 from HH M0 hK (FrS.rf _ M0)
  intro M hK hS
  have hwh := wmul (a := w) (b := h) (by omega) (by omega)
  have hwh1 : 1 ≤ w * h := Nat.mul_pos hok.1 hok.2.1
  refine aw_ic0 0 dX10_blur_0 ?_
  refine aw_istore5 1 dX10_blur_1 rfl ?_
  refine aw_ic0 3 dX10_blur_3 ?_
  refine aw_istore6 4 dX10_blur_4 rfl ?_
  have LP6 : ∀ (dd : Nat) (d : Nat) (z : Option Value), h - d = dd → (d ≤ h) → AW mX10_blur rmX10_blur (fun r' M' => r' = (none) ∧ (fun M => FrS SW M0 M ∧ WKS M n q (nI W) (nI H) (blF g x y w h ((smG g x y w (w * h)) / nI (w * h)))) M') 6 [some (.ref 12), some (.int (nI x)), some (.int (nI y)), some (.int (nI w)), some (.int (nI h)), some (.int (smG g x y w (w * d))), some (.int (nI d)), z] [] M 0 0 := by
    intro dd
    induction dd using Nat.strongRecOn with
    | _ dd ih6 =>
      intro d z hdd hd0
      refine aw_iload6 6 dX10_blur_6 ?_
      refine aw_iload4 8 dX10_blur_8 ?_
      refine aw_icmp_geN 10 58 (d) (h) dX10_blur_10 (by decide) rfl rfl (by omega) (by omega) (fun h10 => ?_) (fun h10 => ?_)
      · have ed : h = d := by omega
        subst ed
        refine aw_ic0 58 dX10_blur_58 ?_
        refine aw_istore6 59 dX10_blur_59 rfl ?_
        have LP61 : ∀ (dd : Nat) (d2 : Nat) (z : Option Value) (M : Mem), h - d2 = dd → (d2 ≤ h) → (WKS M n q (nI W) (nI H) (blI g x y w d2 0 ((smG g x y w (w * h)) / nI (w * h)))) → (FrS SW M0 M) → AW mX10_blur rmX10_blur (fun r' M' => r' = (none) ∧ (fun M => FrS SW M0 M ∧ WKS M n q (nI W) (nI H) (blF g x y w h ((smG g x y w (w * h)) / nI (w * h)))) M') 61 [some (.ref 12), some (.int (nI x)), some (.int (nI y)), some (.int (nI w)), some (.int (nI h)), some (.int (smG g x y w (w * h))), some (.int (nI d2)), z] [] M 0 0 := by
          intro dd
          induction dd using Nat.strongRecOn with
          | _ dd ih61 =>
            intro d2 z M hdd hd2 hK hS
            refine aw_iload6 61 dX10_blur_61 ?_
            refine aw_iload4 63 dX10_blur_63 ?_
            refine aw_icmp_geN 65 115 (d2) (h) dX10_blur_65 (by decide) rfl rfl (by omega) (by omega) (fun h65 => ?_) (fun h65 => ?_)
            · refine aw_vret 115 dX10_blur_115 rfl (Nat.zero_le _) (Nat.zero_le _) ?_
              exact ⟨rfl, hS, hK.to (fun k hk => blI_fin (by omega))⟩
            · refine aw_ic0 68 dX10_blur_68 ?_
              refine aw_istore7 69 dX10_blur_69 rfl ?_
              have LP71 : ∀ (dd : Nat) (a : Nat) (M : Mem), w - a = dd → (a ≤ w) → (WKS M n q (nI W) (nI H) (blI g x y w d2 a ((smG g x y w (w * h)) / nI (w * h)))) → (FrS SW M0 M) → AW mX10_blur rmX10_blur (fun r' M' => r' = (none) ∧ (fun M => FrS SW M0 M ∧ WKS M n q (nI W) (nI H) (blF g x y w h ((smG g x y w (w * h)) / nI (w * h)))) M') 71 [some (.ref 12), some (.int (nI x)), some (.int (nI y)), some (.int (nI w)), some (.int (nI h)), some (.int (smG g x y w (w * h))), some (.int (nI d2)), some (.int (nI a))] [] M 0 0 := by
                intro dd
                induction dd using Nat.strongRecOn with
                | _ dd ih71 =>
                  intro a M hdd ha0 hK hS
                  refine aw_iload7 71 dX10_blur_71 ?_
                  refine aw_iload3 73 dX10_blur_73 ?_
                  refine aw_icmp_geN 74 109 (a) (w) dX10_blur_74 (by decide) rfl rfl (by omega) (by omega) (fun h74 => ?_) (fun h74 => ?_)
                  · refine aw_iinc6 109 (nI (d2 + 1)) dX10_blur_109 (nI_1 _) rfl ?_
                    refine aw_goto 112 61 dX10_blur_112 (by decide) ?_
                    exact ih61 _ (by omega) (d2 + 1) _ M rfl (by omega) (hK.to (fun k hk => blI_nx (by omega))) hS
                  · refine aw_aload0 77 dX10_blur_77 ?_
                    refine aw_get 78 dX10_blur_78 ckF_RX10_14_10 hK.1 hK.2.1 ?_
                    refine aw_get 81 dX10_blur_81 ckF_RX10_69_3 hK.pv.1 hK.pv.2.2.1 ?_
                    refine aw_iload1 84 dX10_blur_84 ?_
                    refine aw_iload7 85 dX10_blur_85 ?_
                    refine aw_iaddN 87 (x) (a) dX10_blur_87 rfl rfl ?_
                    refine aw_ic4 88 dX10_blur_88 ?_
                    refine aw_iload2 89 dX10_blur_89 ?_
                    refine aw_iload6 90 dX10_blur_90 ?_
                    refine aw_iaddN 92 (y) (d2) dX10_blur_92 rfl rfl ?_
                    refine aw_imulN 93 (4) (y + d2) dX10_blur_93 rfl rfl ?_
                    refine aw_iaddN 94 (x + a) (4 * (y + d2)) dX10_blur_94 rfl rfl ?_
                    refine aw_iload5 95 dX10_blur_95 ?_
                    refine aw_iload3 97 dX10_blur_97 ?_
                    refine aw_iload4 98 dX10_blur_98 ?_
                    refine aw_imulN 100 (w) (h) dX10_blur_100 rfl rfl ?_
                    refine aw_idiv 101 dX10_blur_101 (nI_ne0 hwh1 (by omega)) ?_
                    refine ar_st 102 ((x + a) + (4 * (y + d2))) dX10_blur_102 hK.pv.2.2.2.2.2.2 (by decide) rfl (show (x + a) + (4 * (y + d2)) < 16 by omega) (by decide) (fun M hA hd => ?_)
                    replace hS := hS.wd hd (Or.inr (Or.inl rfl))
                    replace hK := (hK.sq hd hA).to (fun k hk => blI_up (k := k) h74 (by omega))
                    clear hd hA
                    refine aw_iinc7 103 (nI (a + 1)) dX10_blur_103 (nI_1 _) rfl ?_
                    refine aw_goto 106 71 dX10_blur_106 (by decide) ?_
                    exact ih71 _ (by omega) (a + 1) M rfl (by omega) hK hS
              exact LP71 _ 0 M rfl (by omega) hK hS
        exact LP61 _ 0 _ M rfl (by omega) (hK.to (fun k hk => by unfold blI; rw [if_neg (by omega)])) hS
      · refine aw_ic0 13 dX10_blur_13 ?_
        refine aw_istore7 14 dX10_blur_14 rfl ?_
        have LP16 : ∀ (dd : Nat) (a : Nat), w - a = dd → (a ≤ w) → AW mX10_blur rmX10_blur (fun r' M' => r' = (none) ∧ (fun M => FrS SW M0 M ∧ WKS M n q (nI W) (nI H) (blF g x y w h ((smG g x y w (w * h)) / nI (w * h)))) M') 16 [some (.ref 12), some (.int (nI x)), some (.int (nI y)), some (.int (nI w)), some (.int (nI h)), some (.int (smG g x y w (w * d + a))), some (.int (nI d)), some (.int (nI a))] [] M 0 0 := by
          intro dd
          induction dd using Nat.strongRecOn with
          | _ dd ih16 =>
            intro a hdd ha0
            refine aw_iload7 16 dX10_blur_16 ?_
            refine aw_iload3 18 dX10_blur_18 ?_
            refine aw_icmp_geN 19 52 (a) (w) dX10_blur_19 (by decide) rfl rfl (by omega) (by omega) (fun h19 => ?_) (fun h19 => ?_)
            · have ea : a = w := by omega
              subst ea
              rw [show a * d + a = a * (d + 1) from (Nat.mul_succ a d).symm]
              refine aw_iinc6 52 (nI (d + 1)) dX10_blur_52 (nI_1 _) rfl ?_
              refine aw_goto 55 6 dX10_blur_55 (by decide) ?_
              exact ih6 _ (by omega) (d + 1) _ rfl (by omega)
            · refine aw_iload5 22 dX10_blur_22 ?_
              refine aw_aload0 24 dX10_blur_24 ?_
              refine aw_get 25 dX10_blur_25 ckF_RX10_14_10 hK.1 hK.2.1 ?_
              refine aw_get 28 dX10_blur_28 ckF_RX10_69_3 hK.pv.1 hK.pv.2.2.1 ?_
              refine aw_iload1 31 dX10_blur_31 ?_
              refine aw_iload7 32 dX10_blur_32 ?_
              refine aw_iaddN 34 (x) (a) dX10_blur_34 rfl rfl ?_
              refine aw_ic4 35 dX10_blur_35 ?_
              refine aw_iload2 36 dX10_blur_36 ?_
              refine aw_iload6 37 dX10_blur_37 ?_
              refine aw_iaddN 39 (y) (d) dX10_blur_39 rfl rfl ?_
              refine aw_imulN 40 (4) (y + d) dX10_blur_40 rfl rfl ?_
              refine aw_iaddN 41 (x + a) (4 * (y + d)) dX10_blur_41 rfl rfl ?_
              refine ar_ld 42 ((x + a) + (4 * (y + d))) dX10_blur_42 hK.pv.2.2.2.2.2.2 rfl (show (x + a) + (4 * (y + d)) < 16 by omega) (by decide) ?_
              refine aw_iadd 43 dX10_blur_43 ?_
              refine aw_topi (smG_s (x := x) (y := y) h19) ?_
              refine aw_istore5 44 dX10_blur_44 rfl ?_
              refine aw_iinc7 46 (nI (a + 1)) dX10_blur_46 (nI_1 _) rfl ?_
              refine aw_goto 49 16 dX10_blur_49 (by decide) ?_
              exact ih16 _ (by omega) (a + 1) rfl (by omega)
        exact LP16 _ 0 rfl (by omega)
  exact LP6 _ 0 none rfl (by omega)

def trF (g : Nat → Int32) (W H : Nat) : Nat → Int32 := fun k => if k % 4 < H ∧ k / 4 < W then g (k / 4 + 4 * (H - 1 - k % 4)) else -1
def trI (g : Nat → Int32) (W H x y : Nat) : Nat → Int32 := fun k => if k / 4 < W ∧ (k % 4 < x ∨ (k % 4 = x ∧ k / 4 < y)) then g (k / 4 + 4 * (H - 1 - k % 4)) else -1
theorem trI_up {g : Nat → Int32} {W H x y k : Nat} (hx : x < 4) (hy : y < W) : upg (trI g W H x y) (x + 4 * y) (g (y + 4 * (H - 1 - x))) k = trI g W H x (y + 1) k := by
  unfold upg trI
  by_cases e : k = x + 4 * y
  · rw [if_pos e, if_pos (by omega), show k % 4 = x by omega, show k / 4 = y by omega]
  · rw [if_neg e]
    by_cases c : k / 4 < W ∧ (k % 4 < x ∨ (k % 4 = x ∧ k / 4 < y))
    · rw [if_pos c, if_pos (by omega)]
    · rw [if_neg c, if_neg (by omega)]
theorem trI_nx {g : Nat → Int32} {W H x y k : Nat} (hy : W ≤ y) : trI g W H x y k = trI g W H (x + 1) 0 k := by
  unfold trI
  by_cases c : k / 4 < W ∧ (k % 4 < x ∨ (k % 4 = x ∧ k / 4 < y))
  · rw [if_pos c, if_pos (by omega)]
  · rw [if_neg c, if_neg (by omega)]
theorem trI_fin {g : Nat → Int32} {W H x k : Nat} (hx : x = H) : trI g W H x 0 k = trF g W H k := by
  unfold trI trF
  by_cases c : k % 4 < H ∧ k / 4 < W
  · rw [if_pos c, if_pos (by omega)]
  · rw [if_neg c, if_neg (by omega)]

def rmX10_turnToSpare : Room := { frames := 1, cells := 0, slots := 0, locals := 23 }
set_option maxHeartbeats 4000000 in
set_option maxRecDepth 100000 in
theorem c_X10_turnToSpare {M0 : Mem} {n : Int32} {q : Value} {g : Nat → Int32} {W H : Nat} (hK : WKS M0 n q (nI W) (nI H) g) (hWH : W ≤ 4 ∧ 1 ≤ H ∧ H ≤ 4) : AP mX10_turnToSpare rmX10_turnToSpare [.ref 12] M0 (none) (fun M => FrS SW M0 M ∧ WKS M n q (nI W) (nI H) g ∧ AR M 15 16 (trF g W H)) := by
  refine am_of rfl rfl (ls := [some (.ref 12), none, none]) rfl ?_
  suffices HH : ∀ M, (WKS M n q (nI W) (nI H) g) → (FrS SW M0 M) → AW mX10_turnToSpare rmX10_turnToSpare (fun r' M' => r' = (none) ∧ (fun M => FrS SW M0 M ∧ WKS M n q (nI W) (nI H) g ∧ AR M 15 16 (trF g W H)) M') 0 [some (.ref 12), none, none] [] M 0 0 from HH M0 hK (FrS.rf _ M0)
  intro M hK hS
  refine aw_aload0 0 dX10_turnToSpare_0 ?_
  refine aw_get 1 dX10_turnToSpare_1 ckF_RX10_20_10 hK.1 hK.2.2.1 ?_
  refine aw_icm1 4 dX10_turnToSpare_4 ?_
  refine ap_s0 5 dX10_turnToSpare_5 (c_J7_fill_53178 hK.2.2.2.1 (by decide) (by decide)) ckS_RX10_63 cd_J7_fill_53178 rfl (Nat.le_of_ble_eq_true rfl) ⟨⟨by decide, by decide⟩, by decide, by decide⟩ rfl (fun M hq => ?_)
  replace hS := hS.wd hq.1 (Or.inr (Or.inr rfl))
  replace hK := hK.spare hq.1
  have hA := hq.2
  clear hq
  refine aw_ic0 8 dX10_turnToSpare_8 ?_
  refine aw_istore1 9 dX10_turnToSpare_9 rfl ?_
  have LP10 : ∀ (dd : Nat) (x : Nat) (z : Option Value) (M : Mem), H - x = dd → (x ≤ H) → (WKS M n q (nI W) (nI H) g) → (FrS SW M0 M) → (AR M 15 16 (trI g W H x 0)) → AW mX10_turnToSpare rmX10_turnToSpare (fun r' M' => r' = (none) ∧ (fun M => FrS SW M0 M ∧ WKS M n q (nI W) (nI H) g ∧ AR M 15 16 (trF g W H)) M') 10 [some (.ref 12), some (.int (nI x)), z] [] M 0 0 := by
    intro dd
    induction dd using Nat.strongRecOn with
    | _ dd ih10 =>
      intro x z M hdd hx0 hK hS hA
      refine aw_iload1 10 dX10_turnToSpare_10 ?_
      refine aw_aload0 11 dX10_turnToSpare_11 ?_
      refine aw_get 12 dX10_turnToSpare_12 ckF_RX10_14_10 hK.1 hK.2.1 ?_
      refine aw_get 15 dX10_turnToSpare_15 ckF_RX10_47_3 hK.pv.1 hK.pv.2.2.2.2.1 ?_
      refine aw_icmp_geN 18 79 (x) (H) dX10_turnToSpare_18 (by decide) rfl rfl (by omega) (by omega) (fun h18 => ?_) (fun h18 => ?_)
      · refine aw_vret 79 dX10_turnToSpare_79 rfl (Nat.zero_le _) (Nat.zero_le _) ?_
        exact ⟨rfl, hS, hK, hA.to (fun k hk => trI_fin (k := k) (by omega))⟩
      · refine aw_ic0 21 dX10_turnToSpare_21 ?_
        refine aw_istore2 22 dX10_turnToSpare_22 rfl ?_
        have LP23 : ∀ (dd : Nat) (y : Nat) (M : Mem), W - y = dd → (y ≤ W) → (WKS M n q (nI W) (nI H) g) → (FrS SW M0 M) → (AR M 15 16 (trI g W H x y)) → AW mX10_turnToSpare rmX10_turnToSpare (fun r' M' => r' = (none) ∧ (fun M => FrS SW M0 M ∧ WKS M n q (nI W) (nI H) g ∧ AR M 15 16 (trF g W H)) M') 23 [some (.ref 12), some (.int (nI x)), some (.int (nI y))] [] M 0 0 := by
          intro dd
          induction dd using Nat.strongRecOn with
          | _ dd ih23 =>
            intro y M hdd hy0 hK hS hA
            refine aw_iload2 23 dX10_turnToSpare_23 ?_
            refine aw_aload0 24 dX10_turnToSpare_24 ?_
            refine aw_get 25 dX10_turnToSpare_25 ckF_RX10_14_10 hK.1 hK.2.1 ?_
            refine aw_get 28 dX10_turnToSpare_28 ckF_RX10_51_3 hK.pv.1 hK.pv.2.2.2.1 ?_
            refine aw_icmp_geN 31 73 (y) (W) dX10_turnToSpare_31 (by decide) rfl rfl (by omega) (by omega) (fun h31 => ?_) (fun h31 => ?_)
            · refine aw_iinc1 73 (nI (x + 1)) dX10_turnToSpare_73 (nI_1 _) rfl ?_
              refine aw_goto 76 10 dX10_turnToSpare_76 (by decide) ?_
              exact ih10 _ (by omega) (x + 1) _ M rfl (by omega) hK hS (hA.to (fun k hk => trI_nx (by omega)))
            · refine aw_aload0 34 dX10_turnToSpare_34 ?_
              refine aw_get 35 dX10_turnToSpare_35 ckF_RX10_20_10 hK.1 hK.2.2.1 ?_
              refine aw_iload1 38 dX10_turnToSpare_38 ?_
              refine aw_ic4 39 dX10_turnToSpare_39 ?_
              refine aw_iload2 40 dX10_turnToSpare_40 ?_
              refine aw_imulN 41 (4) (y) dX10_turnToSpare_41 rfl rfl ?_
              refine aw_iaddN 42 (x) (4 * y) dX10_turnToSpare_42 rfl rfl ?_
              refine aw_aload0 43 dX10_turnToSpare_43 ?_
              refine aw_get 44 dX10_turnToSpare_44 ckF_RX10_14_10 hK.1 hK.2.1 ?_
              refine aw_get 47 dX10_turnToSpare_47 ckF_RX10_69_3 hK.pv.1 hK.pv.2.2.1 ?_
              refine aw_iload2 50 dX10_turnToSpare_50 ?_
              refine aw_ic4 51 dX10_turnToSpare_51 ?_
              refine aw_aload0 52 dX10_turnToSpare_52 ?_
              refine aw_get 53 dX10_turnToSpare_53 ckF_RX10_14_10 hK.1 hK.2.1 ?_
              refine aw_get 56 dX10_turnToSpare_56 ckF_RX10_47_3 hK.pv.1 hK.pv.2.2.2.2.1 ?_
              refine aw_ic1 59 dX10_turnToSpare_59 ?_
              refine aw_isubN 60 (H) (1) dX10_turnToSpare_60 rfl rfl (by omega) ?_
              refine aw_iload1 61 dX10_turnToSpare_61 ?_
              refine aw_isubN 62 (H - 1) (x) dX10_turnToSpare_62 rfl rfl (by omega) ?_
              refine aw_imulN 63 (4) ((H - 1) - x) dX10_turnToSpare_63 rfl rfl ?_
              refine aw_iaddN 64 (y) (4 * ((H - 1) - x)) dX10_turnToSpare_64 rfl rfl ?_
              refine ar_ld 65 (y + (4 * ((H - 1) - x))) dX10_turnToSpare_65 hK.pv.2.2.2.2.2.2 rfl (show y + (4 * ((H - 1) - x)) < 16 by omega) (by decide) ?_
              refine ar_st 66 (x + (4 * y)) dX10_turnToSpare_66 hA (by decide) rfl (show x + (4 * y) < 16 by omega) (by decide) (fun M hA hd => ?_)
              replace hS := hS.wd hd (Or.inr (Or.inr rfl))
              replace hK := hK.spare hd
              replace hA := hA.to (fun k hk => trI_up (k := k) (by omega) h31)
              clear hd
              refine aw_iinc2 67 (nI (y + 1)) dX10_turnToSpare_67 (nI_1 _) rfl ?_
              refine aw_goto 70 23 dX10_turnToSpare_70 (by decide) ?_
              exact ih23 _ (by omega) (y + 1) M rfl (by omega) hK hS hA
        exact LP23 _ 0 M rfl (by omega) hK hS hA
  exact LP10 _ 0 none M rfl (by omega) hK hS (hA.to (fun k hk => by unfold trI; rw [if_neg (by omega)]))

def shV (v b : Int32) : Int32 := if v = -1 then -1 else if 0 < (if v + b < 99 then v + b else 99) then (if v + b < 99 then v + b else 99) else 0
def swV (v b : Int32) : Int32 := if v = -1 then -1 else v / b * b
def mpI (F : Int32 → Int32) (g : Nat → Int32) (n : Nat) : Nat → Int32 := fun k => if k < n then F (g k) else g k
theorem mpI_up {F : Int32 → Int32} {g : Nat → Int32} {n k : Nat} {v : Int32} (hv : v = F (g n)) : upg (mpI F g n) n v k = mpI F g (n + 1) k := by
  unfold upg mpI
  by_cases e : k = n
  · rw [if_pos e, if_pos (by omega), hv, e]
  · rw [if_neg e]
    by_cases c : k < n
    · rw [if_pos c, if_pos (by omega)]
    · rw [if_neg c, if_neg (by omega)]
theorem mpI_sk {F : Int32 → Int32} {g : Nat → Int32} {n k : Nat} (hv : g n = F (g n)) : mpI F g n k = mpI F g (n + 1) k := by
  unfold mpI
  by_cases e : k = n
  · rw [if_neg (by omega), if_pos (by omega), e, ← hv]
  · by_cases c : k < n
    · rw [if_pos c, if_pos (by omega)]
    · rw [if_neg c, if_neg (by omega)]
theorem mpI_at {F : Int32 → Int32} {g : Nat → Int32} {n : Nat} : mpI F g n n = g n := if_neg (Nat.lt_irrefl n)

def rmX10_shift : Room := { frames := 1, cells := 0, slots := 0, locals := 21 }
set_option maxHeartbeats 4000000 in
set_option maxRecDepth 100000 in
theorem c_X10_shift {M0 : Mem} {n : Int32} {q : Value} {g : Nat → Int32} {W H : Nat} {b : Int32} (hK : WKS M0 n q (nI W) (nI H) g) : AP mX10_shift rmX10_shift [.ref 12, .int b] M0 (none) (fun M => FrS SW M0 M ∧ WKS M n q (nI W) (nI H) (fun k => shV (g k) b)) := by
  refine am_of rfl rfl (ls := [some (.ref 12), some (.int b), none]) rfl ?_
  suffices HH : ∀ M, (WKS M n q (nI W) (nI H) g) → (FrS SW M0 M) → AW mX10_shift rmX10_shift (fun r' M' => r' = (none) ∧ (fun M => FrS SW M0 M ∧ WKS M n q (nI W) (nI H) (fun k => shV (g k) b)) M') 0 [some (.ref 12), some (.int b), none] [] M 0 0 from HH M0 hK (FrS.rf _ M0)
  intro M hK hS
  refine aw_ic0 0 dX10_shift_0 ?_
  refine aw_istore2 1 dX10_shift_1 rfl ?_
  have LP2 : ∀ (dd : Nat) (k : Nat) (M : Mem), 16 - k = dd → (k ≤ 16) → (WKS M n q (nI W) (nI H) (mpI (fun v => shV v b) g k)) → (FrS SW M0 M) → AW mX10_shift rmX10_shift (fun r' M' => r' = (none) ∧ (fun M => FrS SW M0 M ∧ WKS M n q (nI W) (nI H) (fun k => shV (g k) b)) M') 2 [some (.ref 12), some (.int b), some (.int (nI k))] [] M 0 0 := by
    intro dd
    induction dd using Nat.strongRecOn with
    | _ dd ih2 =>
      intro k M hdd hk hK hS
      refine aw_iload2 2 dX10_shift_2 ?_
      refine aw_bipush 3 16 dX10_shift_3 (by decide) ?_
      refine aw_icmp_geN 5 56 (k) (16) dX10_shift_5 (by decide) rfl rfl (by omega) (by omega) (fun h5 => ?_) (fun h5 => ?_)
      · refine aw_vret 56 dX10_shift_56 rfl (Nat.zero_le _) (Nat.zero_le _) ?_
        exact ⟨rfl, hS, hK.to (fun k hk => by unfold mpI; rw [if_pos (by omega)])⟩
      · refine aw_aload0 8 dX10_shift_8 ?_
        refine aw_get 9 dX10_shift_9 ckF_RX10_14_10 hK.1 hK.2.1 ?_
        refine aw_get 12 dX10_shift_12 ckF_RX10_69_3 hK.pv.1 hK.pv.2.2.1 ?_
        refine aw_iload2 15 dX10_shift_15 ?_
        refine ar_ld 16 (k) dX10_shift_16 hK.pv.2.2.2.2.2.2 rfl (show k < 16 by omega) (by decide) ?_
        refine aw_topi (w := g k) mpI_at ?_
        refine aw_icm1 17 dX10_shift_17 ?_
        refine aw_icmp_eq 18 50 dX10_shift_18 (by decide) (fun h18 => ?_) (fun h18 => ?_)
        · replace hK := hK.to (fun j _ => mpI_sk (k := j) (show g k = shV (g k) b by unfold shV; rw [if_pos h18]; exact h18))
          refine aw_iinc2 50 (nI (k + 1)) dX10_shift_50 (nI_1 _) rfl ?_
          refine aw_goto 53 2 dX10_shift_53 (by decide) ?_
          exact ih2 _ (by omega) (k + 1) M rfl (by omega) hK hS
        · refine aw_aload0 21 dX10_shift_21 ?_
          refine aw_get 22 dX10_shift_22 ckF_RX10_14_10 hK.1 hK.2.1 ?_
          refine aw_get 25 dX10_shift_25 ckF_RX10_69_3 hK.pv.1 hK.pv.2.2.1 ?_
          refine aw_iload2 28 dX10_shift_28 ?_
          refine aw_ic0 29 dX10_shift_29 ?_
          refine aw_bipush 30 99 dX10_shift_30 (by decide) ?_
          refine aw_aload0 32 dX10_shift_32 ?_
          refine aw_get 33 dX10_shift_33 ckF_RX10_14_10 hK.1 hK.2.1 ?_
          refine aw_get 36 dX10_shift_36 ckF_RX10_69_3 hK.pv.1 hK.pv.2.2.1 ?_
          refine aw_iload2 39 dX10_shift_39 ?_
          refine ar_ld 40 (k) dX10_shift_40 hK.pv.2.2.2.2.2.2 rfl (show k < 16 by omega) (by decide) ?_
          refine aw_topi (w := g k) mpI_at ?_
          refine aw_iload1 41 dX10_shift_41 ?_
          refine aw_iadd 42 dX10_shift_42 ?_
          refine aw_min 43 dX10_shift_43 ckM_RX10_72 (Nat.le_of_ble_eq_true rfl) (by decide) (by decide) (Nat.zero_le _) (Nat.zero_le _) ?_
          refine aw_max 46 dX10_shift_46 ckM_RX10_78 (Nat.le_of_ble_eq_true rfl) (by decide) (by decide) (Nat.zero_le _) (Nat.zero_le _) ?_
          refine ar_st 49 (k) dX10_shift_49 hK.pv.2.2.2.2.2.2 (by decide) rfl (show k < 16 by omega) (by decide) (fun M hA hd => ?_)
          replace hS := hS.wd hd (Or.inr (Or.inl rfl))
          replace hK := (hK.sq hd hA).to (fun j _ => mpI_up (k := j) (show _ = shV (g k) b by unfold shV; rw [if_neg h18]))
          clear hd hA
          refine aw_iinc2 50 (nI (k + 1)) dX10_shift_50 (nI_1 _) rfl ?_
          refine aw_goto 53 2 dX10_shift_53 (by decide) ?_
          exact ih2 _ (by omega) (k + 1) M rfl (by omega) hK hS
  exact LP2 _ 0 M rfl (by omega) (hK.to (fun k hk => by unfold mpI; rw [if_neg (by omega)])) hS

def rmX10_saveWorse : Room := { frames := 0, cells := 0, slots := 0, locals := 0 }
set_option maxHeartbeats 4000000 in
set_option maxRecDepth 100000 in
theorem c_X10_saveWorse {M0 : Mem} {n : Int32} {q : Value} {g : Nat → Int32} {W H d : Nat} {b : Int32} (hK : WKS M0 n q (nI W) (nI H) g) (hb : b = nI d) (hd1 : 1 ≤ d ∧ d ≤ 99) : AP mX10_saveWorse rmX10_saveWorse [.ref 12, .int b] M0 (none) (fun M => FrS SW M0 M ∧ WKS M n q (nI W) (nI H) (fun k => swV (g k) b)) := by
  refine am_of rfl rfl (ls := [some (.ref 12), some (.int b), none]) rfl ?_
  suffices HH : ∀ M, (WKS M n q (nI W) (nI H) g) → (FrS SW M0 M) → AW mX10_saveWorse rmX10_saveWorse (fun r' M' => r' = (none) ∧ (fun M => FrS SW M0 M ∧ WKS M n q (nI W) (nI H) (fun k => swV (g k) b)) M') 0 [some (.ref 12), some (.int b), none] [] M 0 0 from HH M0 hK (FrS.rf _ M0)
  intro M hK hS
  refine aw_ic0 0 dX10_saveWorse_0 ?_
  refine aw_istore2 1 dX10_saveWorse_1 rfl ?_
  have LP2 : ∀ (dd : Nat) (k : Nat) (M : Mem), 16 - k = dd → (k ≤ 16) → (WKS M n q (nI W) (nI H) (mpI (fun v => swV v b) g k)) → (FrS SW M0 M) → AW mX10_saveWorse rmX10_saveWorse (fun r' M' => r' = (none) ∧ (fun M => FrS SW M0 M ∧ WKS M n q (nI W) (nI H) (fun k => swV (g k) b)) M') 2 [some (.ref 12), some (.int b), some (.int (nI k))] [] M 0 0 := by
    intro dd
    induction dd using Nat.strongRecOn with
    | _ dd ih2 =>
      intro k M hdd hk hK hS
      refine aw_iload2 2 dX10_saveWorse_2 ?_
      refine aw_bipush 3 16 dX10_saveWorse_3 (by decide) ?_
      refine aw_icmp_geN 5 53 (k) (16) dX10_saveWorse_5 (by decide) rfl rfl (by omega) (by omega) (fun h5 => ?_) (fun h5 => ?_)
      · refine aw_vret 53 dX10_saveWorse_53 rfl (Nat.zero_le _) (Nat.zero_le _) ?_
        exact ⟨rfl, hS, hK.to (fun k hk => by unfold mpI; rw [if_pos (by omega)])⟩
      · refine aw_iload1 8 dX10_saveWorse_8 ?_
        refine aw_if_le 9 53 dX10_saveWorse_9 (by decide) (fun h9 => ?_) (fun h9 => ?_)
        · exact absurd h9 (by rw [hb]; exact nI_nle (by omega) (by omega))
        · refine aw_aload0 12 dX10_saveWorse_12 ?_
          refine aw_get 13 dX10_saveWorse_13 ckF_RX10_14_10 hK.1 hK.2.1 ?_
          refine aw_get 16 dX10_saveWorse_16 ckF_RX10_69_3 hK.pv.1 hK.pv.2.2.1 ?_
          refine aw_iload2 19 dX10_saveWorse_19 ?_
          refine ar_ld 20 (k) dX10_saveWorse_20 hK.pv.2.2.2.2.2.2 rfl (show k < 16 by omega) (by decide) ?_
          refine aw_topi (w := g k) mpI_at ?_
          refine aw_icm1 21 dX10_saveWorse_21 ?_
          refine aw_icmp_eq 22 47 dX10_saveWorse_22 (by decide) (fun h22 => ?_) (fun h22 => ?_)
          · replace hK := hK.to (fun j _ => mpI_sk (k := j) (show g k = swV (g k) b by unfold swV; rw [if_pos h22]; exact h22))
            refine aw_iinc2 47 (nI (k + 1)) dX10_saveWorse_47 (nI_1 _) rfl ?_
            refine aw_goto 50 2 dX10_saveWorse_50 (by decide) ?_
            exact ih2 _ (by omega) (k + 1) M rfl (by omega) hK hS
          · refine aw_aload0 25 dX10_saveWorse_25 ?_
            refine aw_get 26 dX10_saveWorse_26 ckF_RX10_14_10 hK.1 hK.2.1 ?_
            refine aw_get 29 dX10_saveWorse_29 ckF_RX10_69_3 hK.pv.1 hK.pv.2.2.1 ?_
            refine aw_iload2 32 dX10_saveWorse_32 ?_
            refine aw_aload0 33 dX10_saveWorse_33 ?_
            refine aw_get 34 dX10_saveWorse_34 ckF_RX10_14_10 hK.1 hK.2.1 ?_
            refine aw_get 37 dX10_saveWorse_37 ckF_RX10_69_3 hK.pv.1 hK.pv.2.2.1 ?_
            refine aw_iload2 40 dX10_saveWorse_40 ?_
            refine ar_ld 41 (k) dX10_saveWorse_41 hK.pv.2.2.2.2.2.2 rfl (show k < 16 by omega) (by decide) ?_
            refine aw_topi (w := g k) mpI_at ?_
            refine aw_iload1 42 dX10_saveWorse_42 ?_
            refine aw_idiv 43 dX10_saveWorse_43 (by rw [hb]; exact nI_ne0 (by omega) (by omega)) ?_
            refine aw_iload1 44 dX10_saveWorse_44 ?_
            refine aw_imul 45 dX10_saveWorse_45 ?_
            refine ar_st 46 (k) dX10_saveWorse_46 hK.pv.2.2.2.2.2.2 (by decide) rfl (show k < 16 by omega) (by decide) (fun M hA hd => ?_)
            replace hS := hS.wd hd (Or.inr (Or.inl rfl))
            replace hK := (hK.sq hd hA).to (fun j _ => mpI_up (k := j) (show _ = swV (g k) b by unfold swV; rw [if_neg h22]))
            clear hd hA
            refine aw_iinc2 47 (nI (k + 1)) dX10_saveWorse_47 (nI_1 _) rfl ?_
            refine aw_goto 50 2 dX10_saveWorse_50 (by decide) ?_
            exact ih2 _ (by omega) (k + 1) M rfl (by omega) hK hS
  exact LP2 _ 0 M rfl (by omega) (hK.to (fun k hk => by unfold mpI; rw [if_neg (by omega)])) hS

