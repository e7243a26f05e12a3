/-! the class: arrays filled, a picture written, sheets, lines, the trace, the tree (gen/cls2.py) -/
theorem Wd.rf (a : Nat) (M : Mem) : Wd a M M := ⟨rfl, rfl, fun _ _ => rfl⟩
theorem Wd.trans {a : Nat} {M M1 M2 : Mem} (h : Wd a M M1) (g : Wd a M1 M2) : Wd a M M2 := ⟨g.1.trans h.1, g.2.1.trans h.2.1, fun b hb => (g.2.2 b hb).trans (h.2.2 b hb)⟩
theorem PV.num {M M' : Mem} {a : Nat} {n w h x : Int32} {g : Nat → Int32} {q : Value} (p : PV M a n w h g q) (f : Wf a 0 (.int x) M M') : PV M' a x w h g q :=
  ⟨by rw [f.2.1]; exact p.1, f.2.2.1, (f.2.2.2 _ _ (by omega)).trans p.2.2.1, (f.2.2.2 _ _ (by omega)).trans p.2.2.2.1, (f.2.2.2 _ _ (by omega)).trans p.2.2.2.2.1, (f.2.2.2 _ _ (by omega)).trans p.2.2.2.2.2.1, p.2.2.2.2.2.2.wd f.toWd (by omega)⟩
theorem PV.wid {M M' : Mem} {a : Nat} {n w h x : Int32} {g : Nat → Int32} {q : Value} (p : PV M a n w h g q) (f : Wf a 2 (.int x) M M') : PV M' a n x h g q :=
  ⟨by rw [f.2.1]; exact p.1, (f.2.2.2 _ _ (by omega)).trans p.2.1, (f.2.2.2 _ _ (by omega)).trans p.2.2.1, f.2.2.1, (f.2.2.2 _ _ (by omega)).trans p.2.2.2.2.1, (f.2.2.2 _ _ (by omega)).trans p.2.2.2.2.2.1, p.2.2.2.2.2.2.wd f.toWd (by omega)⟩
theorem PV.hig {M M' : Mem} {a : Nat} {n w h x : Int32} {g : Nat → Int32} {q : Value} (p : PV M a n w h g q) (f : Wf a 3 (.int x) M M') : PV M' a n w x g q :=
  ⟨by rw [f.2.1]; exact p.1, (f.2.2.2 _ _ (by omega)).trans p.2.1, (f.2.2.2 _ _ (by omega)).trans p.2.2.1, (f.2.2.2 _ _ (by omega)).trans p.2.2.2.1, f.2.2.1, (f.2.2.2 _ _ (by omega)).trans p.2.2.2.2.2.1, p.2.2.2.2.2.2.wd f.toWd (by omega)⟩
theorem PV.pap {M M' : Mem} {a : Nat} {n w h : Int32} {g : Nat → Int32} {q v : Value} (p : PV M a n w h g q) (f : Wf a 4 v M M') : PV M' a n w h g v :=
  ⟨by rw [f.2.1]; exact p.1, (f.2.2.2 _ _ (by omega)).trans p.2.1, (f.2.2.2 _ _ (by omega)).trans p.2.2.1, (f.2.2.2 _ _ (by omega)).trans p.2.2.2.1, (f.2.2.2 _ _ (by omega)).trans p.2.2.2.2.1, f.2.2.1, p.2.2.2.2.2.2.wd f.toWd (by omega)⟩
theorem PV.sqs {M M' : Mem} {a : Nat} {n w h : Int32} {g g' : Nat → Int32} {q : Value} (p : PV M a n w h g q) (f : Wd (a + 1) M M') (hA : AR M' (a + 1) 16 g') : PV M' a n w h g' q := by
  have e := f.2.2 a (by omega)
  exact ⟨by rw [f.2.1]; exact p.1, by rw [e]; exact p.2.1, by rw [e]; exact p.2.2.1, by rw [e]; exact p.2.2.2.1, by rw [e]; exact p.2.2.2.2.1, by rw [e]; exact p.2.2.2.2.2.1, hA⟩
theorem PV.frs {S : Nat → Prop} {M M' : Mem} {a : Nat} {n w h : Int32} {g : Nat → Int32} {q : Value} (p : PV M a n w h g q) (f : FrS S M M') (h1 : ¬ S a) (h2 : ¬ S (a + 1)) : PV M' a n w h g q := by
  have e := f.2.2 a h1
  exact ⟨by rw [f.2.1]; exact p.1, by rw [e]; exact p.2.1, by rw [e]; exact p.2.2.1, by rw [e]; exact p.2.2.2.1, by rw [e]; exact p.2.2.2.2.1, by rw [e]; exact p.2.2.2.2.2.1, p.2.2.2.2.2.2.frs f h2⟩
theorem PV.to {M : Mem} {a : Nat} {n w h : Int32} {g g' : Nat → Int32} {q : Value} (p : PV M a n w h g q) (he : ∀ k, k < 16 → g k = g' k) : PV M a n w h g' q := ⟨p.1, p.2.1, p.2.2.1, p.2.2.2.1, p.2.2.2.2.1, p.2.2.2.2.2.1, p.2.2.2.2.2.2.to he⟩

def rmJ7_fill_53178 : Room := { frames := 0, cells := 0, slots := 0, locals := 0 }
set_option maxHeartbeats 4000000 in
set_option maxRecDepth 100000 in
theorem c_J7_fill_53178 {M0 : Mem} {a n : Nat} {v : Int32} (hA : M0.2.1 a = (20, n)) (ha : 2 ≤ a) (hn : n < 100000) : AP mJ7_fill_53178 rmJ7_fill_53178 [.ref a, .int v] M0 (none) (fun M => Wd a M0 M ∧ AR M a n (fun _ => v)) := by
  refine am_of rfl rfl (ls := [some (.ref a), some (.int v), none, none]) rfl ?_
  suffices HH : ∀ M, (M.2.1 a = (20, n)) → (Wd a M0 M) → AW mJ7_fill_53178 rmJ7_fill_53178 (fun r' M' => r' = (none) ∧ (fun M => Wd a M0 M ∧ AR M a n (fun _ => v)) M') 0 [some (.ref a), some (.int v), none, none] [] M 0 0 from HH M0 hA (Wd.rf a M0)
  intro M hA hW
  refine aw_ic0 0 dJ7_fill_53178_0 ?_
  refine aw_istore2 1 dJ7_fill_53178_1 rfl ?_
  refine aw_aload0 2 dJ7_fill_53178_2 ?_
  refine aw_alen 3 dJ7_fill_53178_3 hA ?_
  refine aw_istore3 4 dJ7_fill_53178_4 rfl ?_
  have LP5 : ∀ (dd : Nat) (k : Nat) (M : Mem), n - k = dd → (k ≤ n) → (M.2.1 a = (20, n)) → (Wd a M0 M) → (∀ j, j < k → M.2.2 a j = .int v) → AW mJ7_fill_53178 rmJ7_fill_53178 (fun r' M' => r' = (none) ∧ (fun M => Wd a M0 M ∧ AR M a n (fun _ => v)) M') 5 [some (.ref a), some (.int v), some (.int (nI k)), some (.int (nI n))] [] M 0 0 := by
    intro dd
    induction dd using Nat.strongRecOn with
    | _ dd ih5 =>
      intro k M hdd hk hA hW hv
      refine aw_iload2 5 dJ7_fill_53178_5 ?_
      refine aw_iload3 6 dJ7_fill_53178_6 ?_
      refine aw_icmp_geN 7 20 (k) (n) dJ7_fill_53178_7 (by decide) rfl rfl (by omega) (by omega) (fun h7 => ?_) (fun h7 => ?_)
      · refine aw_vret 20 dJ7_fill_53178_20 rfl (Nat.zero_le _) (Nat.zero_le _) ?_
        refine ⟨rfl, hW, hA, fun j hj => hv j (by omega)⟩
      · refine aw_aload0 10 dJ7_fill_53178_10 ?_
        refine aw_iload2 11 dJ7_fill_53178_11 ?_
        refine aw_iload1 12 dJ7_fill_53178_12 ?_
        refine ax_st 13 (k) dJ7_fill_53178_13 hA ha rfl (show k < n by omega) (by omega) (fun M hd => ?_)
        refine aw_iinc2 14 (nI (k + 1)) dJ7_fill_53178_14 (nI_1 _) rfl ?_
        refine aw_goto 17 5 dJ7_fill_53178_17 (by decide) ?_
        exact ih5 _ (by omega) (k + 1) M rfl (by omega) (by rw [hd.2.1]; exact hA) (hW.trans hd.toWd) (lt_s (fun j hj => (hd.2.2.2 _ _ (by omega)).trans (hv j hj)) hd.2.2.1)
  exact LP5 _ 0 M rfl (by omega) hA hW (fun j hj => absurd hj (by omega))

def rmX3_replace : Room := { frames := 1, cells := 0, slots := 0, locals := 40 }
set_option maxHeartbeats 4000000 in
set_option maxRecDepth 100000 in
theorem c_X3_replace {M0 : Mem} {a : Nat} {n w h : Int32} {g : Nat → Int32} {q : Value} {b : Nat} {w2 h2 : Int32} {f : Nat → Int32} (hP : PV M0 a n w h g q) (hA : AR M0 b 16 f) (ha : 2 ≤ a) (hb : 2 ≤ b) (hab : b ≠ a ∧ b ≠ a + 1) : AP mX3_replace rmX3_replace [.ref a, .int w2, .int h2, .ref b] M0 (none) (fun M => FrS (fun c => c = a ∨ c = a + 1) M0 M ∧ PV M a n w2 h2 f q) := by
  refine am_of rfl rfl (ls := [some (.ref a), some (.int w2), some (.int h2), some (.ref b)]) rfl ?_
  suffices HH : ∀ M, (PV M a n w h g q) → (AR M b 16 f) → (FrS (fun c => c = a ∨ c = a + 1) M0 M) → AW mX3_replace rmX3_replace (fun r' M' => r' = (none) ∧ (fun M => FrS (fun c => c = a ∨ c = a + 1) M0 M ∧ PV M a n w2 h2 f q) M') 0 [some (.ref a), some (.int w2), some (.int h2), some (.ref b)] [] M 0 0 from HH M0 hP hA (FrS.rf _ M0)
  intro M hP hA hS
  refine aw_aload0 0 dX3_replace_0 ?_
  refine aw_iload1 1 dX3_replace_1 ?_
  refine fp_put 2 dX3_replace_2 ckF_RX3_25_3 ckP3_2 hP.1 rfl rfl (fun M hd => ?_)
  replace hS := hS.wd hd.toWd (Or.inl rfl)
  replace hA := hA.wd hd.toWd hab.1
  replace hP := hP.wid hd
  refine aw_aload0 5 dX3_replace_5 ?_
  refine aw_iload2 6 dX3_replace_6 ?_
  refine fp_put 7 dX3_replace_7 ckF_RX3_28_3 ckP3_3 hP.1 rfl rfl (fun M hd => ?_)
  replace hS := hS.wd hd.toWd (Or.inl rfl)
  replace hA := hA.wd hd.toWd hab.1
  replace hP := hP.hig hd
  refine aw_aload3 10 dX3_replace_10 ?_
  refine aw_ic0 11 dX3_replace_11 ?_
  refine aw_aload0 12 dX3_replace_12 ?_
  refine aw_get 13 dX3_replace_13 ckF_RX3_9_3 hP.1 hP.2.2.1 ?_
  refine aw_ic0 16 dX3_replace_16 ?_
  refine aw_bipush 17 16 dX3_replace_17 (by decide) ?_
  refine aw_copy 19 (0) (0) (16) dX3_replace_19 ckY_RX3_41 hA.1 hP.2.2.2.2.2.2.1 hb (by omega) rfl rfl rfl (by omega) (by omega) (by decide) (by decide) (fun i hi => ⟨_, hA.2 _ (by omega)⟩) (Nat.le_of_ble_eq_true rfl) (by decide) (by decide) ?_
  refine aw_vret 22 dX3_replace_22 rfl (Nat.zero_le _) (Nat.zero_le _) ?_
  have hd : Wd (a + 1) M (wa M (a + 1) (cpV (M.2.2 b) (M.2.2 (a + 1)) 0 0 16)) := ⟨rfl, rfl, fun c hc => if_neg hc⟩
  refine ⟨rfl, hS.wd hd (Or.inr rfl), hP.sqs hd ⟨hP.2.2.2.2.2.2.1, fun k hk => ?_⟩⟩
  show (if a + 1 = a + 1 then cpV (M.2.2 b) (M.2.2 (a + 1)) 0 0 16 else M.2.2 (a + 1)) k = _
  rw [if_pos rfl]
  unfold cpV
  rw [if_pos (by omega), show 0 + (k - 0) = k by omega]
  exact hA.2 k hk

def rmX3_become : Room := { frames := 2, cells := 0, slots := 0, locals := 63 }
set_option maxHeartbeats 4000000 in
set_option maxRecDepth 100000 in
theorem c_X3_become {M0 : Mem} {a : Nat} {n w h : Int32} {g : Nat → Int32} {q : Value} {b : Nat} {n2 w2 h2 : Int32} {f : Nat → Int32} {q2 : Value} (hP : PV M0 a n w h g q) (hB : PV M0 b n2 w2 h2 f q2) (ha : 2 ≤ a) (hb : 2 ≤ b) (hab : b + 1 ≠ a ∧ b ≠ a) : AP mX3_become rmX3_become [.ref a, .ref b] M0 (none) (fun M => FrS (fun c => c = a ∨ c = a + 1) M0 M ∧ PV M a n w2 h2 f q) := by
  refine am_of rfl rfl (ls := [some (.ref a), some (.ref b)]) rfl ?_
  suffices HH : ∀ M, (PV M a n w h g q) → (PV M b n2 w2 h2 f q2) → (M = M0) → AW mX3_become rmX3_become (fun r' M' => r' = (none) ∧ (fun M => FrS (fun c => c = a ∨ c = a + 1) M0 M ∧ PV M a n w2 h2 f q) M') 0 [some (.ref a), some (.ref b)] [] M 0 0 from HH M0 hP hB rfl
  intro M hP hB hS
  refine aw_aload0 0 dX3_become_0 ?_
  refine aw_aload1 1 dX3_become_1 ?_
  refine aw_get 2 dX3_become_2 ckF_RX3_25_3 hB.1 hB.2.2.2.1 ?_
  refine aw_aload1 5 dX3_become_5 ?_
  refine aw_get 6 dX3_become_6 ckF_RX3_28_3 hB.1 hB.2.2.2.2.1 ?_
  refine aw_aload1 9 dX3_become_9 ?_
  refine aw_get 10 dX3_become_10 ckF_RX3_9_3 hB.1 hB.2.2.1 ?_
  refine ap_v0 13 dX3_become_13 (c_X3_replace hP hB.2.2.2.2.2.2 ha (by omega) (by omega)) ckV_RX3_37 cd_X3_replace hP.1 vc3 rfl rfl (Nat.le_of_ble_eq_true rfl) ⟨⟨by decide, by decide⟩, by decide, by decide⟩ rfl (fun M hq => ?_)
  refine aw_vret 16 dX3_become_16 rfl (Nat.zero_le _) (Nat.zero_le _) ?_
  subst hS
  exact ⟨rfl, hq⟩

/-- a mark pressed into the squares: squares, how many changed, how many looked at -/
def imp (g : Nat → Int32) (m : Int32) : Nat → (Nat → Int32) × Int32 × Nat
  | 0 => (g, 0, 0)
  | k + 1 => if 8 ≤ (imp g m k).2.2 ∨ (imp g m k).1 k = -1 then imp g m k else (if tlB ((imp g m k).1 k) m (imp g m k).2.2 then (imp g m k).1 else upg (imp g m k).1 k (flp ((imp g m k).1 k)), if tlB ((imp g m k).1 k) m (imp g m k).2.2 then (imp g m k).2.1 else (imp g m k).2.1 + 1, (imp g m k).2.2 + 1)
theorem imp_s {g : Nat → Int32} {m : Int32} {k : Nat} : imp g m (k + 1) = if 8 ≤ (imp g m k).2.2 ∨ (imp g m k).1 k = -1 then imp g m k else (if tlB ((imp g m k).1 k) m (imp g m k).2.2 then (imp g m k).1 else upg (imp g m k).1 k (flp ((imp g m k).1 k)), if tlB ((imp g m k).1 k) m (imp g m k).2.2 then (imp g m k).2.1 else (imp g m k).2.1 + 1, (imp g m k).2.2 + 1) := rfl
theorem imp_8 {g : Nat → Int32} {m : Int32} {k : Nat} (h : 8 ≤ (imp g m k).2.2) : ∀ j, k ≤ j → imp g m j = imp g m k := by
  intro j hj
  induction j with
  | zero => rw [show k = 0 by omega]
  | succ j ih =>
    by_cases hk : k = j + 1
    · rw [hk]
    · have := ih (by omega)
      rw [imp_s, this, if_pos (Or.inl h)]

def rmX3_imprint : Room := { frames := 3, cells := 0, slots := 0, locals := 63 }
set_option maxHeartbeats 4000000 in
set_option maxRecDepth 100000 in
theorem c_X3_imprint {M0 : Mem} {a : Nat} {n w h : Int32} {g : Nat → Int32} {q : Value} {m : Int32} (hP : PV M0 a n w h g q) (ha : 2 ≤ a) : AP mX3_imprint rmX3_imprint [.ref a, .int m] M0 (some (.int (imp g m 16).2.1)) (fun M => Wd (a + 1) M0 M ∧ AR M (a + 1) 16 (imp g m 16).1) := by
  refine am_of rfl rfl (ls := [some (.ref a), some (.int m), none, none, none]) rfl ?_
  suffices HH : ∀ M, (PV M a n w h g q) → (Wd (a + 1) M0 M) → AW mX3_imprint rmX3_imprint (fun r' M' => r' = (some (.int (imp g m 16).2.1)) ∧ (fun M => Wd (a + 1) M0 M ∧ AR M (a + 1) 16 (imp g m 16).1) M') 0 [some (.ref a), some (.int m), none, none, none] [] M 0 0 from HH M0 hP (Wd.rf _ M0)
  intro M hP hW
  refine aw_ic0 0 dX3_imprint_0 ?_
  refine aw_istore2 1 dX3_imprint_1 rfl ?_
  refine aw_ic0 2 dX3_imprint_2 ?_
  refine aw_istore3 3 dX3_imprint_3 rfl ?_
  refine aw_ic0 4 dX3_imprint_4 ?_
  refine aw_istore4 5 dX3_imprint_5 rfl ?_
  have LP7 : ∀ (dd : Nat) (k b : Nat) (v : Int32) (f : Nat → Int32) (M : Mem), 16 - k = dd → (k ≤ 16) → (b ≤ 8) → (imp g m k = (f, v, b)) → (PV M a n w h f q) → (Wd (a + 1) M0 M) → AW mX3_imprint rmX3_imprint (fun r' M' => r' = (some (.int (imp g m 16).2.1)) ∧ (fun M => Wd (a + 1) M0 M ∧ AR M (a + 1) 16 (imp g m 16).1) M') 7 [some (.ref a), some (.int m), some (.int v), some (.int (nI b)), some (.int (nI k))] [] M 0 0 := by
    intro dd
    induction dd using Nat.strongRecOn with
    | _ dd ih7 =>
      intro k b v f M hdd hk hb hs hP hW
      refine aw_iload4 7 dX3_imprint_7 ?_
      refine aw_bipush 9 16 dX3_imprint_9 (by decide) ?_
      refine aw_icmp_geN 11 85 (k) (16) dX3_imprint_11 (by decide) rfl rfl (by omega) (by omega) (fun h11 => ?_) (fun h11 => ?_)
      · refine aw_iload2 85 dX3_imprint_85 ?_
        refine aw_iret 86 dX3_imprint_86 rfl (Nat.zero_le _) (Nat.zero_le _) ?_
        have h16 : imp g m 16 = (f, v, b) := by
          rw [← hs]
          first
            | (rw [show k = 16 by omega]; done)
            | exact imp_8 (by rw [hs]; exact h17) 16 (by omega)
        rw [h16]
        exact ⟨rfl, hW, hP.2.2.2.2.2.2⟩
      · refine aw_iload3 14 dX3_imprint_14 ?_
        refine aw_bipush 15 8 dX3_imprint_15 (by decide) ?_
        refine aw_icmp_geN 17 85 (b) (8) dX3_imprint_17 (by decide) rfl rfl (by omega) (by omega) (fun h17 => ?_) (fun h17 => ?_)
        · refine aw_iload2 85 dX3_imprint_85 ?_
          refine aw_iret 86 dX3_imprint_86 rfl (Nat.zero_le _) (Nat.zero_le _) ?_
          have h16 : imp g m 16 = (f, v, b) := by
            rw [← hs]
            first
              | (rw [show k = 16 by omega]; done)
              | exact imp_8 (by rw [hs]; exact h17) 16 (by omega)
          rw [h16]
          exact ⟨rfl, hW, hP.2.2.2.2.2.2⟩
        · refine aw_aload0 20 dX3_imprint_20 ?_
          refine aw_iload4 21 dX3_imprint_21 ?_
          refine cr_v1 23 dX3_imprint_23 (c_X3_has hP (k := k) (by omega)) ckV_RX3_71 cd_X3_has hP.1 vc3 rfl rfl (Nat.le_of_ble_eq_true rfl) ⟨⟨by decide, by decide⟩, by decide, by decide⟩ rfl ?_
          refine aw_ifne_b 26 32 dX3_imprint_26 (by decide) (fun h26 => ?_) (fun h26 => ?_)
          · refine aw_aload0 32 dX3_imprint_32 ?_
            refine aw_iload4 33 dX3_imprint_33 ?_
            refine aw_iload1 35 dX3_imprint_35 ?_
            refine aw_iload3 36 dX3_imprint_36 ?_
            refine cr_v1 37 dX3_imprint_37 (c_X3_tellsBit hP (k := k) (b := b) (by omega)) ckV_RX3_77 cd_X3_tellsBit hP.1 vc3 rfl rfl (Nat.le_of_ble_eq_true rfl) ⟨⟨by decide, by decide⟩, by decide, by decide⟩ rfl ?_
            refine aw_ifne_b 40 76 dX3_imprint_40 (by decide) (fun h40 => ?_) (fun h40 => ?_)
            · refine aw_iinc3 76 (nI (b + 1)) dX3_imprint_76 (nI_1 _) rfl ?_
              refine aw_iinc4 79 (nI (k + 1)) dX3_imprint_79 (nI_1 _) rfl ?_
              refine aw_goto 82 7 dX3_imprint_82 (by decide) ?_
              exact ih7 _ (by omega) (k + 1) _ _ _ M rfl (by omega) (by omega) (by rw [imp_s, hs]; first | (rw [if_pos (Or.inr (Classical.not_not.mp h26))]; done) | (rw [if_neg (fun q => q.elim (fun z => absurd z (Nat.not_le.mpr h17)) h26)]; show (ite _ _ _, ite _ _ _, _) = _; rw [if_pos h40, if_pos h40]; done) | (rw [if_neg (fun q => q.elim (fun z => absurd z (Nat.not_le.mpr h17)) h26)]; show (ite _ _ _, ite _ _ _, _) = _; rw [if_neg h40, if_neg h40, hfl]; done)) hP hW
            · refine aw_aload0 43 dX3_imprint_43 ?_
              refine aw_get 44 dX3_imprint_44 ckF_RX3_9_3 hP.1 hP.2.2.1 ?_
              refine aw_iload4 47 dX3_imprint_47 ?_
              refine aw_aload0 49 dX3_imprint_49 ?_
              refine aw_get 50 dX3_imprint_50 ckF_RX3_9_3 hP.1 hP.2.2.1 ?_
              refine aw_iload4 53 dX3_imprint_53 ?_
              refine ar_ld 55 (k) dX3_imprint_55 hP.2.2.2.2.2.2 rfl (show k < 16 by omega) (by decide) ?_
              refine aw_if_ne 56 63 dX3_imprint_56 (by decide) (fun h56 => ?_) (fun h56 => ?_)
              · have hfl : flp (f k) = f k - 1 := if_neg h56
                refine aw_aload0 63 dX3_imprint_63 ?_
                refine aw_get 64 dX3_imprint_64 ckF_RX3_9_3 hP.1 hP.2.2.1 ?_
                refine aw_iload4 67 dX3_imprint_67 ?_
                refine ar_ld 69 (k) dX3_imprint_69 hP.2.2.2.2.2.2 rfl (show k < 16 by omega) (by decide) ?_
                refine aw_ic1 70 dX3_imprint_70 ?_
                refine aw_isub 71 dX3_imprint_71 ?_
                refine ar_st 72 (k) dX3_imprint_72 hP.2.2.2.2.2.2 (by omega) rfl (show k < 16 by omega) (by decide) (fun M hA hd => ?_)
                replace hP := hP.sqs hd hA
                replace hW := hW.trans hd
                refine aw_iinc2 73 (v + 1) dX3_imprint_73 rfl rfl ?_
                refine aw_iinc3 76 (nI (b + 1)) dX3_imprint_76 (nI_1 _) rfl ?_
                refine aw_iinc4 79 (nI (k + 1)) dX3_imprint_79 (nI_1 _) rfl ?_
                refine aw_goto 82 7 dX3_imprint_82 (by decide) ?_
                exact ih7 _ (by omega) (k + 1) _ _ _ M rfl (by omega) (by omega) (by rw [imp_s, hs]; first | (rw [if_pos (Or.inr (Classical.not_not.mp h26))]; done) | (rw [if_neg (fun q => q.elim (fun z => absurd z (Nat.not_le.mpr h17)) h26)]; show (ite _ _ _, ite _ _ _, _) = _; rw [if_pos h40, if_pos h40]; done) | (rw [if_neg (fun q => q.elim (fun z => absurd z (Nat.not_le.mpr h17)) h26)]; show (ite _ _ _, ite _ _ _, _) = _; rw [if_neg h40, if_neg h40, hfl]; done)) hP hW
              · have hfl : flp (f k) = 1 := if_pos h56
                refine aw_ic1 59 dX3_imprint_59 ?_
                refine aw_goto 60 72 dX3_imprint_60 (by decide) ?_
                refine ar_st 72 (k) dX3_imprint_72 hP.2.2.2.2.2.2 (by omega) rfl (show k < 16 by omega) (by decide) (fun M hA hd => ?_)
                replace hP := hP.sqs hd hA
                replace hW := hW.trans hd
                refine aw_iinc2 73 (v + 1) dX3_imprint_73 rfl rfl ?_
                refine aw_iinc3 76 (nI (b + 1)) dX3_imprint_76 (nI_1 _) rfl ?_
                refine aw_iinc4 79 (nI (k + 1)) dX3_imprint_79 (nI_1 _) rfl ?_
                refine aw_goto 82 7 dX3_imprint_82 (by decide) ?_
                exact ih7 _ (by omega) (k + 1) _ _ _ M rfl (by omega) (by omega) (by rw [imp_s, hs]; first | (rw [if_pos (Or.inr (Classical.not_not.mp h26))]; done) | (rw [if_neg (fun q => q.elim (fun z => absurd z (Nat.not_le.mpr h17)) h26)]; show (ite _ _ _, ite _ _ _, _) = _; rw [if_pos h40, if_pos h40]; done) | (rw [if_neg (fun q => q.elim (fun z => absurd z (Nat.not_le.mpr h17)) h26)]; show (ite _ _ _, ite _ _ _, _) = _; rw [if_neg h40, if_neg h40, hfl]; done)) hP hW
          · refine aw_goto 29 79 dX3_imprint_29 (by decide) ?_
            refine aw_iinc4 79 (nI (k + 1)) dX3_imprint_79 (nI_1 _) rfl ?_
            refine aw_goto 82 7 dX3_imprint_82 (by decide) ?_
            exact ih7 _ (by omega) (k + 1) _ _ _ M rfl (by omega) (by omega) (by rw [imp_s, hs]; first | (rw [if_pos (Or.inr (Classical.not_not.mp h26))]; done) | (rw [if_neg (fun q => q.elim (fun z => absurd z (Nat.not_le.mpr h17)) h26)]; show (ite _ _ _, ite _ _ _, _) = _; rw [if_pos h40, if_pos h40]; done) | (rw [if_neg (fun q => q.elim (fun z => absurd z (Nat.not_le.mpr h17)) h26)]; show (ite _ _ _, ite _ _ _, _) = _; rw [if_neg h40, if_neg h40, hfl]; done)) hP hW
  exact LP7 _ 0 0 0 g M rfl (by omega) (by omega) rfl hP hW

def SV (M : Mem) (s : Nat) (hr lane len : Int32) (c : Nat → Int32) : Prop := M.2.1 s = (5, 4) ∧ M.2.2 s 0 = .ref (s + 1) ∧ M.2.2 s 1 = .int hr ∧ M.2.2 s 2 = .int lane ∧ M.2.2 s 3 = .int len ∧ AR M (s + 1) 60 c
theorem SV.frs {S : Nat → Prop} {M M' : Mem} {s : Nat} {hr lane len : Int32} {c : Nat → Int32} (p : SV M s hr lane len c) (f : FrS S M M') (h1 : ¬ S s) (h2 : ¬ S (s + 1)) : SV M' s hr lane len c := by
  have e := f.2.2 s h1
  exact ⟨by rw [f.2.1]; exact p.1, by rw [e]; exact p.2.1, by rw [e]; exact p.2.2.1, by rw [e]; exact p.2.2.2.1, by rw [e]; exact p.2.2.2.2.1, p.2.2.2.2.2.frs f h2⟩

def rmX5_lacks : Room := { frames := 0, cells := 0, slots := 0, locals := 0 }
set_option maxHeartbeats 4000000 in
set_option maxRecDepth 100000 in
theorem c_X5_lacks {M : Mem} {s : Nat} {hr lane len : Int32} {c : Nat → Int32} {i n : Int32} (hV : SV M s hr lane len c) : CR mX5_lacks rmX5_lacks [.ref s, .int i, .int n] M (some (.int (bi (i < 0 ∨ len - n < i)))) := by
  refine am_of rfl rfl (ls := [some (.ref s), some (.int i), some (.int n)]) rfl ?_
  refine aw_iload1 0 dX5_lacks_0 ?_
  refine aw_if_lt 1 14 dX5_lacks_1 (by decide) (fun h1 => ?_) (fun h1 => ?_)
  · refine aw_ic1 14 dX5_lacks_14 ?_
    refine aw_goto 15 19 dX5_lacks_15 (by decide) ?_
    refine aw_zret 19 dX5_lacks_19 rfl (by first | rfl | exact bi_nar | decide) (Nat.zero_le _) (Nat.zero_le _) ?_
    refine ⟨?_, rfl⟩
    first
      | (rw [bi_t (Or.inl h1)]; done)
      | (rw [bi_t (Or.inr (Int32.not_le.mp h11))]; done)
      | (rw [bi_f (fun q => q.elim h1 (fun z => absurd h11 (Int32.not_le.mpr z)))]; done)
  · refine aw_iload1 4 dX5_lacks_4 ?_
    refine aw_aload0 5 dX5_lacks_5 ?_
    refine aw_get 6 dX5_lacks_6 ckF_RX5_23_5 hV.1 hV.2.2.2.2.1 ?_
    refine aw_iload2 9 dX5_lacks_9 ?_
    refine aw_isub 10 dX5_lacks_10 ?_
    refine aw_icmp_le 11 18 dX5_lacks_11 (by decide) (fun h11 => ?_) (fun h11 => ?_)
    · refine aw_ic0 18 dX5_lacks_18 ?_
      refine aw_zret 19 dX5_lacks_19 rfl (by first | rfl | exact bi_nar | decide) (Nat.zero_le _) (Nat.zero_le _) ?_
      refine ⟨?_, rfl⟩
      first
        | (rw [bi_t (Or.inl h1)]; done)
        | (rw [bi_t (Or.inr (Int32.not_le.mp h11))]; done)
        | (rw [bi_f (fun q => q.elim h1 (fun z => absurd h11 (Int32.not_le.mpr z)))]; done)
    · refine aw_ic1 14 dX5_lacks_14 ?_
      refine aw_goto 15 19 dX5_lacks_15 (by decide) ?_
      refine aw_zret 19 dX5_lacks_19 rfl (by first | rfl | exact bi_nar | decide) (Nat.zero_le _) (Nat.zero_le _) ?_
      refine ⟨?_, rfl⟩
      first
        | (rw [bi_t (Or.inl h1)]; done)
        | (rw [bi_t (Or.inr (Int32.not_le.mp h11))]; done)
        | (rw [bi_f (fun q => q.elim h1 (fun z => absurd h11 (Int32.not_le.mpr z)))]; done)

def fOf (hr lane len l i n : Int32) : Int32 := if hr = 0 then 1 else if ¬ lane = l then 2 else if n < 0 then 4 else if i < 0 ∨ len - n < i then 3 else 0

def rmX5_faultOf : Room := { frames := 1, cells := 0, slots := 0, locals := 22 }
set_option maxHeartbeats 4000000 in
set_option maxRecDepth 100000 in
theorem c_X5_faultOf {M : Mem} {s : Nat} {hr lane len : Int32} {c : Nat → Int32} {l i n : Int32} (hV : SV M s hr lane len c) : CR mX5_faultOf rmX5_faultOf [.ref s, .int l, .int i, .int n] M (some (.int (fOf hr lane len l i n))) := by
  refine am_of rfl rfl (ls := [some (.ref s), some (.int l), some (.int i), some (.int n)]) rfl ?_
  refine aw_aload0 0 dX5_faultOf_0 ?_
  refine aw_get 1 dX5_faultOf_1 ckF_RX5_15_5 hV.1 hV.2.2.1 ?_
  refine aw_if_ne 4 9 dX5_faultOf_4 (by decide) (fun h4 => ?_) (fun h4 => ?_)
  · refine aw_aload0 9 dX5_faultOf_9 ?_
    refine aw_get 10 dX5_faultOf_10 ckF_RX5_19_5 hV.1 hV.2.2.2.1 ?_
    refine aw_iload1 13 dX5_faultOf_13 ?_
    refine aw_icmp_eq 14 19 dX5_faultOf_14 (by decide) (fun h14 => ?_) (fun h14 => ?_)
    · refine aw_iload3 19 dX5_faultOf_19 ?_
      refine aw_if_ge 20 25 dX5_faultOf_20 (by decide) (fun h20 => ?_) (fun h20 => ?_)
      · refine aw_aload0 25 dX5_faultOf_25 ?_
        refine aw_iload2 26 dX5_faultOf_26 ?_
        refine aw_iload3 27 dX5_faultOf_27 ?_
        refine cr_v1 28 dX5_faultOf_28 (c_X5_lacks hV) ckV_RX5_32 cd_X5_lacks hV.1 vc5 rfl rfl (Nat.le_of_ble_eq_true rfl) ⟨⟨by decide, by decide⟩, by decide, by decide⟩ rfl ?_
        refine aw_ifeq_b 31 38 dX5_faultOf_31 (by decide) (fun h31 => ?_) (fun h31 => ?_)
        · refine aw_ic0 38 dX5_faultOf_38 ?_
          refine aw_iret 39 dX5_faultOf_39 rfl (Nat.zero_le _) (Nat.zero_le _) ?_
          refine ⟨?_, rfl⟩
          unfold fOf
          first
            | (rw [if_pos h4]; done)
            | (rw [if_neg h4, if_pos h14]; done)
            | (rw [if_neg h4, if_neg (nn h14), if_pos (Int32.not_le.mp h20)]; done)
            | (rw [if_neg h4, if_neg (nn h14), if_neg (Int32.not_lt.mpr h20), if_pos h31]; done)
            | (rw [if_neg h4, if_neg (nn h14), if_neg (Int32.not_lt.mpr h20), if_neg h31]; done)
        · refine aw_ic3 34 dX5_faultOf_34 ?_
          refine aw_goto 35 39 dX5_faultOf_35 (by decide) ?_
          refine aw_iret 39 dX5_faultOf_39 rfl (Nat.zero_le _) (Nat.zero_le _) ?_
          refine ⟨?_, rfl⟩
          unfold fOf
          first
            | (rw [if_pos h4]; done)
            | (rw [if_neg h4, if_pos h14]; done)
            | (rw [if_neg h4, if_neg (nn h14), if_pos (Int32.not_le.mp h20)]; done)
            | (rw [if_neg h4, if_neg (nn h14), if_neg (Int32.not_lt.mpr h20), if_pos h31]; done)
            | (rw [if_neg h4, if_neg (nn h14), if_neg (Int32.not_lt.mpr h20), if_neg h31]; done)
      · refine aw_ic4 23 dX5_faultOf_23 ?_
        refine aw_iret 24 dX5_faultOf_24 rfl (Nat.zero_le _) (Nat.zero_le _) ?_
        refine ⟨?_, rfl⟩
        unfold fOf
        first
          | (rw [if_pos h4]; done)
          | (rw [if_neg h4, if_pos h14]; done)
          | (rw [if_neg h4, if_neg (nn h14), if_pos (Int32.not_le.mp h20)]; done)
          | (rw [if_neg h4, if_neg (nn h14), if_neg (Int32.not_lt.mpr h20), if_pos h31]; done)
          | (rw [if_neg h4, if_neg (nn h14), if_neg (Int32.not_lt.mpr h20), if_neg h31]; done)
    · refine aw_ic2 17 dX5_faultOf_17 ?_
      refine aw_iret 18 dX5_faultOf_18 rfl (Nat.zero_le _) (Nat.zero_le _) ?_
      refine ⟨?_, rfl⟩
      unfold fOf
      first
        | (rw [if_pos h4]; done)
        | (rw [if_neg h4, if_pos h14]; done)
        | (rw [if_neg h4, if_neg (nn h14), if_pos (Int32.not_le.mp h20)]; done)
        | (rw [if_neg h4, if_neg (nn h14), if_neg (Int32.not_lt.mpr h20), if_pos h31]; done)
        | (rw [if_neg h4, if_neg (nn h14), if_neg (Int32.not_lt.mpr h20), if_neg h31]; done)
  · refine aw_ic1 7 dX5_faultOf_7 ?_
    refine aw_iret 8 dX5_faultOf_8 rfl (Nat.zero_le _) (Nat.zero_le _) ?_
    refine ⟨?_, rfl⟩
    unfold fOf
    first
      | (rw [if_pos h4]; done)
      | (rw [if_neg h4, if_pos h14]; done)
      | (rw [if_neg h4, if_neg (nn h14), if_pos (Int32.not_le.mp h20)]; done)
      | (rw [if_neg h4, if_neg (nn h14), if_neg (Int32.not_lt.mpr h20), if_pos h31]; done)
      | (rw [if_neg h4, if_neg (nn h14), if_neg (Int32.not_lt.mpr h20), if_neg h31]; done)

theorem lm1 {n : Nat} (h : n < 2 ^ 30) : (nI n - 1).toInt = (n : Int) - 1 := by
  cases n with
  | zero => decide
  | succ n =>
    rw [show nI (n + 1) - 1 = nI n from nI_pred n, nI_toInt (by omega)]
    omega

def rmX5_at : Room := { frames := 1, cells := 0, slots := 0, locals := 22 }
set_option maxHeartbeats 4000000 in
set_option maxRecDepth 100000 in
theorem c_X5_at {M : Mem} {s L j : Nat} {hr lane : Int32} {c : Nat → Int32} (hV : SV M s hr lane (nI L) c) (hL : L ≤ 60) (hj : j < L) : CR mX5_at rmX5_at [.ref s, .int (nI j)] M (some (.int (c j))) := by
  refine am_of rfl rfl (ls := [some (.ref s), some (.int (nI j))]) rfl ?_
  have hin : (nI L - 1).toInt = (L : Int) - 1 := lm1 (by omega)
  have hij : irg (nI j) 0 ((L : Int) - 1) := ⟨by rw [nI_toInt (by omega)]; omega, by rw [nI_toInt (by omega)]; omega⟩
  refine aw_iload1 0 dX5_at_0 ?_
  refine aw_ic0 1 dX5_at_1 ?_
  refine aw_aload0 2 dX5_at_2 ?_
  refine aw_get 3 dX5_at_3 ckF_RX5_23_5 hV.1 hV.2.2.2.2.1 ?_
  refine aw_ic1 6 dX5_at_6 ?_
  refine aw_isub 7 dX5_at_7 ?_
  refine cr_sn1 8 dX5_at_8 (cr_sd (c_isInZ 0 ((L : Int) - 1) rfl hin)) ckS_RX5_40 cd_X11_isIn rfl (Nat.le_of_ble_eq_true rfl) ⟨⟨by decide, by decide⟩, by decide, by decide⟩ rfl ?_
  refine aw_ifeq_b 11 23 dX5_at_11 (by decide) (fun h11 => ?_) (fun h11 => ?_)
  · exact absurd hij h11
  · refine aw_aload0 14 dX5_at_14 ?_
    refine aw_get 15 dX5_at_15 ckF_RX5_9_5 hV.1 hV.2.1 ?_
    refine aw_iload1 18 dX5_at_18 ?_
    refine ar_ld 19 (j) dX5_at_19 hV.2.2.2.2.2 rfl (show j < 60 by omega) (by decide) ?_
    refine aw_goto 20 24 dX5_at_20 (by decide) ?_
    refine aw_iret 24 dX5_at_24 rfl (Nat.zero_le _) (Nat.zero_le _) ?_
    exact ⟨rfl, rfl⟩

def rmX5_holdsSquares : Room := { frames := 2, cells := 0, slots := 0, locals := 43 }
set_option maxHeartbeats 4000000 in
set_option maxRecDepth 100000 in
theorem c_X5_holdsSquares {M : Mem} {s L i n : Nat} {hr lane : Int32} {c : Nat → Int32} (hV : SV M s hr lane (nI L) c) (hL : L ≤ 60) (hn : i + n ≤ L) : CR mX5_holdsSquares rmX5_holdsSquares [.ref s, .int (nI i), .int (nI n)] M (some (.int (@bi (∀ k, k < n → irg (c (i + k)) 0 99) (Classical.propDecidable _)))) := by
  refine am_of rfl rfl (ls := [some (.ref s), some (.int (nI i)), some (.int (nI n)), none]) rfl ?_
  refine aw_ic0 0 dX5_holdsSquares_0 ?_
  refine aw_istore3 1 dX5_holdsSquares_1 rfl ?_
  have LP2 : ∀ (dd : Nat) (k : Nat), n - k = dd → (k ≤ n) → (∀ y, y < k → irg (c (i + y)) 0 99) → AW mX5_holdsSquares rmX5_holdsSquares (fun r' M' => r' = (some (.int (@bi (∀ k, k < n → irg (c (i + k)) 0 99) (Classical.propDecidable _)))) ∧ M' = M) 2 [some (.ref s), some (.int (nI i)), some (.int (nI n)), some (.int (nI k))] [] M 0 0 := by
    intro dd
    induction dd using Nat.strongRecOn with
    | _ dd ih2 =>
      intro k hdd hk hall
      refine aw_iload3 2 dX5_holdsSquares_2 ?_
      refine aw_iload2 3 dX5_holdsSquares_3 ?_
      refine aw_icmp_geN 4 31 (k) (n) dX5_holdsSquares_4 (by decide) rfl rfl (by omega) (by omega) (fun h4 => ?_) (fun h4 => ?_)
      · refine aw_ic1 31 dX5_holdsSquares_31 ?_
        refine aw_zret 32 dX5_holdsSquares_32 rfl (by first | rfl | exact bi_nar | decide) (Nat.zero_le _) (Nat.zero_le _) ?_
        refine ⟨?_, rfl⟩
        first
          | exact congrArg (fun z => some (Value.int z)) (if_neg (fun q => h20 (q k (by omega)))).symm
          | exact congrArg (fun z => some (Value.int z)) (if_pos (fun y hy => hall y (by omega))).symm
      · refine aw_aload0 7 dX5_holdsSquares_7 ?_
        refine aw_iload1 8 dX5_holdsSquares_8 ?_
        refine aw_iload3 9 dX5_holdsSquares_9 ?_
        refine aw_iaddN 10 (i) (k) dX5_holdsSquares_10 rfl rfl ?_
        refine cr_v1 11 dX5_holdsSquares_11 (c_X5_at hV hL (j := i + k) (by omega)) ckV_RX5_36 cd_X5_at hV.1 vc5 rfl rfl (Nat.le_of_ble_eq_true rfl) ⟨⟨by decide, by decide⟩, by decide, by decide⟩ rfl ?_
        refine aw_ic0 14 dX5_holdsSquares_14 ?_
        refine aw_bipush 15 99 dX5_holdsSquares_15 (by decide) ?_
        refine cr_sn1 17 dX5_holdsSquares_17 (cr_sd (c_isInZ 0 99 (by decide) (by decide))) ckS_RX5_40 cd_X11_isIn rfl (Nat.le_of_ble_eq_true rfl) ⟨⟨by decide, by decide⟩, by decide, by decide⟩ rfl ?_
        refine aw_ifne_b 20 25 dX5_holdsSquares_20 (by decide) (fun h20 => ?_) (fun h20 => ?_)
        · refine aw_iinc3 25 (nI (k + 1)) dX5_holdsSquares_25 (nI_1 _) rfl ?_
          refine aw_goto 28 2 dX5_holdsSquares_28 (by decide) ?_
          exact ih2 _ (by omega) (k + 1) rfl (by omega) (lt_s hall h20)
        · refine aw_ic0 23 dX5_holdsSquares_23 ?_
          refine aw_zret 24 dX5_holdsSquares_24 rfl (by first | rfl | exact bi_nar | decide) (Nat.zero_le _) (Nat.zero_le _) ?_
          refine ⟨?_, rfl⟩
          first
            | exact congrArg (fun z => some (Value.int z)) (if_neg (fun q => h20 (q k (by omega)))).symm
            | exact congrArg (fun z => some (Value.int z)) (if_pos (fun y hy => hall y (by omega))).symm
  exact LP2 _ 0 rfl (by omega) (fun y hy => absurd hy (by omega))

def rmX5_write : Room := { frames := 1, cells := 0, slots := 0, locals := 22 }
set_option maxHeartbeats 4000000 in
set_option maxRecDepth 100000 in
theorem c_X5_write {M0 : Mem} {s L j : Nat} {hr lane v : Int32} {c : Nat → Int32} (hV : SV M0 s hr lane (nI L) c) (hL : L ≤ 60) (hj : j < L) (hs : 2 ≤ s) : AP mX5_write rmX5_write [.ref s, .int (nI j), .int v] M0 (none) (fun M => Wd (s + 1) M0 M ∧ AR M (s + 1) 60 (upg c j (nrw lane v))) := by
  refine am_of rfl rfl (ls := [some (.ref s), some (.int (nI j)), some (.int v)]) rfl ?_
  suffices HH : ∀ M, (SV M s hr lane (nI L) c) → (M = M0) → AW mX5_write rmX5_write (fun r' M' => r' = (none) ∧ (fun M => Wd (s + 1) M0 M ∧ AR M (s + 1) 60 (upg c j (nrw lane v))) M') 0 [some (.ref s), some (.int (nI j)), some (.int v)] [] M 0 0 from HH M0 hV rfl
  intro M hV hM
  have hin : (nI L - 1).toInt = (L : Int) - 1 := lm1 (by omega)
  have hij : irg (nI j) 0 ((L : Int) - 1) := ⟨by rw [nI_toInt (by omega)]; omega, by rw [nI_toInt (by omega)]; omega⟩
  subst hM
  refine aw_iload1 0 dX5_write_0 ?_
  refine aw_ic0 1 dX5_write_1 ?_
  refine aw_aload0 2 dX5_write_2 ?_
  refine aw_get 3 dX5_write_3 ckF_RX5_23_5 hV.1 hV.2.2.2.2.1 ?_
  refine aw_ic1 6 dX5_write_6 ?_
  refine aw_isub 7 dX5_write_7 ?_
  refine cr_sn1 8 dX5_write_8 (cr_sd (c_isInZ 0 ((L : Int) - 1) rfl hin)) ckS_RX5_40 cd_X11_isIn rfl (Nat.le_of_ble_eq_true rfl) ⟨⟨by decide, by decide⟩, by decide, by decide⟩ rfl ?_
  refine aw_ifeq_b 11 46 dX5_write_11 (by decide) (fun h11 => ?_) (fun h11 => ?_)
  · exact absurd hij h11
  · refine aw_aload0 14 dX5_write_14 ?_
    refine aw_get 15 dX5_write_15 ckF_RX5_9_5 hV.1 hV.2.1 ?_
    refine aw_iload1 18 dX5_write_18 ?_
    refine aw_aload0 19 dX5_write_19 ?_
    refine aw_get 20 dX5_write_20 ckF_RX5_19_5 hV.1 hV.2.2.2.1 ?_
    refine aw_if_ne 23 31 dX5_write_23 (by decide) (fun h23 => ?_) (fun h23 => ?_)
    · refine aw_aload0 31 dX5_write_31 ?_
      refine aw_get 32 dX5_write_32 ckF_RX5_19_5 hV.1 hV.2.2.2.1 ?_
      refine aw_ic1 35 dX5_write_35 ?_
      refine aw_icmp_ne 36 44 dX5_write_36 (by decide) (fun h36 => ?_) (fun h36 => ?_)
      · refine aw_iload2 44 dX5_write_44 ?_
        refine ar_st 45 (j) dX5_write_45 hV.2.2.2.2.2 (by omega) rfl (show j < 60 by omega) (by decide) (fun M hA hd => ?_)
        refine aw_vret 46 dX5_write_46 rfl (Nat.zero_le _) (Nat.zero_le _) ?_
        refine ⟨rfl, hd, hA.to (fun k hk => ?_)⟩
        congr 1
        unfold nrw
        first
          | (rw [if_pos h23]; done)
          | (rw [if_neg h23, if_pos h36]; done)
          | (rw [if_neg h23, if_pos (Classical.not_not.mp h36)]; done)
          | (rw [if_neg h23, if_neg h36]; done)
      · refine aw_iload2 39 dX5_write_39 ?_
        refine aw_i2s 40 dX5_write_40 ?_
        refine aw_goto 41 45 dX5_write_41 (by decide) ?_
        refine ar_st 45 (j) dX5_write_45 hV.2.2.2.2.2 (by omega) rfl (show j < 60 by omega) (by decide) (fun M hA hd => ?_)
        refine aw_vret 46 dX5_write_46 rfl (Nat.zero_le _) (Nat.zero_le _) ?_
        refine ⟨rfl, hd, hA.to (fun k hk => ?_)⟩
        congr 1
        unfold nrw
        first
          | (rw [if_pos h23]; done)
          | (rw [if_neg h23, if_pos h36]; done)
          | (rw [if_neg h23, if_pos (Classical.not_not.mp h36)]; done)
          | (rw [if_neg h23, if_neg h36]; done)
    · refine aw_iload2 26 dX5_write_26 ?_
      refine aw_i2b 27 dX5_write_27 ?_
      refine aw_goto 28 45 dX5_write_28 (by decide) ?_
      refine ar_st 45 (j) dX5_write_45 hV.2.2.2.2.2 (by omega) rfl (show j < 60 by omega) (by decide) (fun M hA hd => ?_)
      refine aw_vret 46 dX5_write_46 rfl (Nat.zero_le _) (Nat.zero_le _) ?_
      refine ⟨rfl, hd, hA.to (fun k hk => ?_)⟩
      congr 1
      unfold nrw
      first
        | (rw [if_pos h23]; done)
        | (rw [if_neg h23, if_pos h36]; done)
        | (rw [if_neg h23, if_pos (Classical.not_not.mp h36)]; done)
        | (rw [if_neg h23, if_neg h36]; done)

theorem SV.row {M M' : Mem} {s : Nat} {hr lane len x : Int32} {c : Nat → Int32} (p : SV M s hr lane len c) (f : Wf s 1 (.int x) M M') : SV M' s x lane len c :=
  ⟨by rw [f.2.1]; exact p.1, (f.2.2.2 _ _ (by omega)).trans p.2.1, f.2.2.1, (f.2.2.2 _ _ (by omega)).trans p.2.2.2.1, (f.2.2.2 _ _ (by omega)).trans p.2.2.2.2.1, p.2.2.2.2.2.wd f.toWd (by omega)⟩
theorem SV.lan {M M' : Mem} {s : Nat} {hr lane len x : Int32} {c : Nat → Int32} (p : SV M s hr lane len c) (f : Wf s 2 (.int x) M M') : SV M' s hr x len c :=
  ⟨by rw [f.2.1]; exact p.1, (f.2.2.2 _ _ (by omega)).trans p.2.1, (f.2.2.2 _ _ (by omega)).trans p.2.2.1, f.2.2.1, (f.2.2.2 _ _ (by omega)).trans p.2.2.2.2.1, p.2.2.2.2.2.wd f.toWd (by omega)⟩
theorem SV.siz {M M' : Mem} {s : Nat} {hr lane len x : Int32} {c : Nat → Int32} (p : SV M s hr lane len c) (f : Wf s 3 (.int x) M M') : SV M' s hr lane x c :=
  ⟨by rw [f.2.1]; exact p.1, (f.2.2.2 _ _ (by omega)).trans p.2.1, (f.2.2.2 _ _ (by omega)).trans p.2.2.1, (f.2.2.2 _ _ (by omega)).trans p.2.2.2.1, f.2.2.1, p.2.2.2.2.2.wd f.toWd (by omega)⟩
theorem SV.cel {M M' : Mem} {s : Nat} {hr lane len : Int32} {c c' : Nat → Int32} (p : SV M s hr lane len c) (f : Wd (s + 1) M M') (hA : AR M' (s + 1) 60 c') : SV M' s hr lane len c' := by
  have e := f.2.2 s (by omega)
  exact ⟨by rw [f.2.1]; exact p.1, by rw [e]; exact p.2.1, by rw [e]; exact p.2.2.1, by rw [e]; exact p.2.2.2.1, by rw [e]; exact p.2.2.2.2.1, hA⟩

def rmX5_renew : Room := { frames := 1, cells := 0, slots := 0, locals := 23 }
set_option maxHeartbeats 4000000 in
set_option maxRecDepth 100000 in
theorem c_X5_renew {M0 : Mem} {s : Nat} {hr lane len : Int32} {c : Nat → Int32} {l n : Int32} (hV : SV M0 s hr lane len c) (hs : 2 ≤ s) : AP mX5_renew rmX5_renew [.ref s, .int l, .int n] M0 (none) (fun M => FrS (fun b => b = s ∨ b = s + 1) M0 M ∧ SV M s 1 l n (fun _ => 0)) := by
  refine am_of rfl rfl (ls := [some (.ref s), some (.int l), some (.int n)]) rfl ?_
  suffices HH : ∀ M, (SV M s hr lane len c) → (FrS (fun b => b = s ∨ b = s + 1) M0 M) → AW mX5_renew rmX5_renew (fun r' M' => r' = (none) ∧ (fun M => FrS (fun b => b = s ∨ b = s + 1) M0 M ∧ SV M s 1 l n (fun _ => 0)) M') 0 [some (.ref s), some (.int l), some (.int n)] [] M 0 0 from HH M0 hV (FrS.rf _ M0)
  intro M hV hS
  refine aw_aload0 0 dX5_renew_0 ?_
  refine aw_ic1 1 dX5_renew_1 ?_
  refine fp_put 2 dX5_renew_2 ckF_RX5_15_5 ckP5_1 hV.1 rfl rfl (fun M hd => ?_)
  replace hS := hS.wd hd.toWd (Or.inl rfl)
  replace hV := hV.row hd
  refine aw_aload0 5 dX5_renew_5 ?_
  refine aw_iload1 6 dX5_renew_6 ?_
  refine fp_put 7 dX5_renew_7 ckF_RX5_19_5 ckP5_2 hV.1 rfl rfl (fun M hd => ?_)
  replace hS := hS.wd hd.toWd (Or.inl rfl)
  replace hV := hV.lan hd
  refine aw_aload0 10 dX5_renew_10 ?_
  refine aw_iload2 11 dX5_renew_11 ?_
  refine fp_put 12 dX5_renew_12 ckF_RX5_23_5 ckP5_3 hV.1 rfl rfl (fun M hd => ?_)
  replace hS := hS.wd hd.toWd (Or.inl rfl)
  replace hV := hV.siz hd
  refine aw_aload0 15 dX5_renew_15 ?_
  refine aw_get 16 dX5_renew_16 ckF_RX5_9_5 hV.1 hV.2.1 ?_
  refine aw_ic0 19 dX5_renew_19 ?_
  refine ap_s0 20 dX5_renew_20 (c_J7_fill_53178 hV.2.2.2.2.2.1 (by omega) (by decide)) ckS_RX5_26 cd_J7_fill_53178 rfl (Nat.le_of_ble_eq_true rfl) ⟨⟨by decide, by decide⟩, by decide, by decide⟩ rfl (fun M hq => ?_)
  refine aw_vret 23 dX5_renew_23 rfl (Nat.zero_le _) (Nat.zero_le _) ?_
  exact ⟨rfl, hS.wd hq.1 (Or.inr rfl), hV.cel hq.1 hq.2⟩

/-- squares of a row of numbers -/
def flG (g : Nat → Int32) (w : Nat) (c : Nat → Int32) : Nat → Nat → Int32
  | 0 => g
  | k + 1 => upg (flG g w c k) (k % w + 4 * (k / w)) (c k)

theorem dpl_lt {w h k : Nat} (h1 : 1 ≤ w) (hw : w ≤ 4) (hh : h ≤ 4) (hk : k < w * h) : k % w + 4 * (k / w) < 16 := by
  have a1 := Nat.mod_lt k (show w > 0 by omega)
  have a2 : k / w < h := Nat.div_lt_of_lt_mul hk
  omega

def rmX3_fill : Room := { frames := 2, cells := 0, slots := 0, locals := 43 }
set_option maxHeartbeats 4000000 in
set_option maxRecDepth 100000 in
theorem c_X3_fill {M0 : Mem} {a : Nat} {n w h : Int32} {g : Nat → Int32} {q : Value} {s L i W H : Nat} {hr lane : Int32} {c : Nat → Int32} (hP : PV M0 a n w h g q) (hV : SV M0 s hr lane (nI L) c) (ha : 2 ≤ a) (has : s ≠ a ∧ s ≠ a + 1 ∧ s + 1 ≠ a ∧ s + 1 ≠ a + 1) (hL : L ≤ 60) (hi : i + W * H ≤ L) (hW1 : 1 ≤ W ∧ W ≤ 4) (hH1 : 1 ≤ H ∧ H ≤ 4) : AP mX3_fill rmX3_fill [.ref a, .int (nI W), .int (nI H), .ref s, .int (nI i)] M0 (none) (fun M => FrS (fun c => c = a ∨ c = a + 1) M0 M ∧ PV M a n (nI W) (nI H) (flG g W (fun k => c (i + k)) (W * H)) q) := by
  refine am_of rfl rfl (ls := [some (.ref a), some (.int (nI W)), some (.int (nI H)), some (.ref s), some (.int (nI i)), none]) rfl ?_
  suffices HH : ∀ M, (PV M a n w h g q) → (SV M s hr lane (nI L) c) → (FrS (fun c => c = a ∨ c = a + 1) M0 M) → AW mX3_fill rmX3_fill (fun r' M' => r' = (none) ∧ (fun M => FrS (fun c => c = a ∨ c = a + 1) M0 M ∧ PV M a n (nI W) (nI H) (flG g W (fun k => c (i + k)) (W * H)) q) M') 0 [some (.ref a), some (.int (nI W)), some (.int (nI H)), some (.ref s), some (.int (nI i)), none] [] M 0 0 from HH M0 hP hV (FrS.rf _ M0)
  intro M hP hV hS
  have hm := wmul hW1.2 hH1.2
  refine aw_aload0 0 dX3_fill_0 ?_
  refine aw_iload1 1 dX3_fill_1 ?_
  refine fp_put 2 dX3_fill_2 ckF_RX3_25_3 ckP3_2 hP.1 rfl rfl (fun M hd => ?_)
  replace hS := hS.wd hd.toWd (Or.inl rfl)
  replace hV := hV.frs (hd.toWd.toFrS (S := fun b => b = a) rfl) (by omega) (by omega)
  replace hP := hP.wid hd
  refine aw_aload0 5 dX3_fill_5 ?_
  refine aw_iload2 6 dX3_fill_6 ?_
  refine fp_put 7 dX3_fill_7 ckF_RX3_28_3 ckP3_3 hP.1 rfl rfl (fun M hd => ?_)
  replace hS := hS.wd hd.toWd (Or.inl rfl)
  replace hV := hV.frs (hd.toWd.toFrS (S := fun b => b = a) rfl) (by omega) (by omega)
  replace hP := hP.hig hd
  refine aw_ic0 10 dX3_fill_10 ?_
  refine aw_istore5 11 dX3_fill_11 rfl ?_
  have LP13 : ∀ (dd : Nat) (k : Nat) (M : Mem), W * H - k = dd → (k ≤ W * H) → (PV M a n (nI W) (nI H) (flG g W (fun k => c (i + k)) k) q) → (SV M s hr lane (nI L) c) → (FrS (fun c => c = a ∨ c = a + 1) M0 M) → AW mX3_fill rmX3_fill (fun r' M' => r' = (none) ∧ (fun M => FrS (fun c => c = a ∨ c = a + 1) M0 M ∧ PV M a n (nI W) (nI H) (flG g W (fun k => c (i + k)) (W * H)) q) M') 13 [some (.ref a), some (.int (nI W)), some (.int (nI H)), some (.ref s), some (.int (nI i)), some (.int (nI k))] [] M 0 0 := by
    intro dd
    induction dd using Nat.strongRecOn with
    | _ dd ih13 =>
      intro k M hdd hk hP hV hS
      refine aw_iload5 13 dX3_fill_13 ?_
      refine aw_aload0 15 dX3_fill_15 ?_
      refine aw_get 16 dX3_fill_16 ckF_RX3_25_3 hP.1 hP.2.2.2.1 ?_
      refine aw_aload0 19 dX3_fill_19 ?_
      refine aw_get 20 dX3_fill_20 ckF_RX3_28_3 hP.1 hP.2.2.2.2.1 ?_
      refine aw_imulN 23 (W) (H) dX3_fill_23 rfl rfl ?_
      refine aw_icmp_geN 24 64 (k) (W * H) dX3_fill_24 (by decide) rfl rfl (by omega) (by omega) (fun h24 => ?_) (fun h24 => ?_)
      · refine aw_vret 64 dX3_fill_64 rfl (Nat.zero_le _) (Nat.zero_le _) ?_
        have he : k = W * H := by omega
        subst he
        exact ⟨rfl, hS, hP⟩
      · have hpl := dpl_lt hW1.1 hW1.2 hH1.2 h24
        refine aw_aload0 27 dX3_fill_27 ?_
        refine aw_get 28 dX3_fill_28 ckF_RX3_9_3 hP.1 hP.2.2.1 ?_
        refine aw_iload5 31 dX3_fill_31 ?_
        refine aw_aload0 33 dX3_fill_33 ?_
        refine aw_get 34 dX3_fill_34 ckF_RX3_25_3 hP.1 hP.2.2.2.1 ?_
        refine aw_iremN 37 (k) (W) dX3_fill_37 rfl rfl (by omega) (by omega) (by omega) ?_
        refine aw_ic4 38 dX3_fill_38 ?_
        refine aw_iload5 39 dX3_fill_39 ?_
        refine aw_aload0 41 dX3_fill_41 ?_
        refine aw_get 42 dX3_fill_42 ckF_RX3_25_3 hP.1 hP.2.2.2.1 ?_
        refine aw_idivN 45 (k) (W) dX3_fill_45 rfl rfl (by omega) (by omega) (by omega) ?_
        refine aw_imulN 46 (4) (k / W) dX3_fill_46 rfl rfl ?_
        refine aw_iaddN 47 (k % W) (4 * (k / W)) dX3_fill_47 rfl rfl ?_
        refine aw_aload3 48 dX3_fill_48 ?_
        refine aw_iload4 49 dX3_fill_49 ?_
        refine aw_iload5 51 dX3_fill_51 ?_
        refine aw_iaddN 53 (i) (k) dX3_fill_53 rfl rfl ?_
        refine cr_v1 54 dX3_fill_54 (c_X5_at hV hL (j := i + k) (by omega)) ckV_RX3_31 cd_X5_at hV.1 vc5 rfl rfl (Nat.le_of_ble_eq_true rfl) ⟨⟨by decide, by decide⟩, by decide, by decide⟩ rfl ?_
        refine ar_st 57 ((k % W) + (4 * (k / W))) dX3_fill_57 hP.2.2.2.2.2.2 (by omega) rfl hpl (by decide) (fun M hA hd => ?_)
        replace hS := hS.wd hd (Or.inr rfl)
        replace hV := hV.frs (hd.toFrS (S := fun b => b = a + 1) rfl) (by omega) (by omega)
        replace hP := hP.sqs hd hA
        refine aw_iinc5 58 (nI (k + 1)) dX3_fill_58 (nI_1 _) rfl ?_
        refine aw_goto 61 13 dX3_fill_61 (by decide) ?_
        exact ih13 _ (by omega) (k + 1) M rfl (by omega) hP hV hS
  exact LP13 _ 0 M rfl (by omega) hP hV hS

