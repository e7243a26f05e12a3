/-! the class: the trace, lines, what calls make, the tree (gen/cls3.py) -/
theorem Wf.trans {a k : Nat} {v w : Value} {M M1 M2 : Mem} (h : Wf a k v M M1) (g : Wf a k w M1 M2) : Wf a k w M M2 := ⟨g.1.trans h.1, g.2.1.trans h.2.1, g.2.2.1, fun b j q => (g.2.2.2 b j q).trans (h.2.2.2 b j q)⟩
/-- a cell made at A -/
def NW (A : Nat) (kn : Nat × Nat) (f : Nat → Value) (M M' : Mem) : Prop := M'.1 = A + 1 ∧ M'.2.1 A = kn ∧ M'.2.2 A = f ∧ ∀ b, b ≠ A → M'.2.1 b = M.2.1 b ∧ M'.2.2 b = M.2.2 b
theorem NW.mk {M : Mem} {A : Nat} {kn : Nat × Nat} {f : Nat → Value} (hA : M.1 = A) : NW A kn f M (nw M kn f) := by
  subst hA
  exact ⟨rfl, if_pos rfl, if_pos rfl, fun b hb => ⟨if_neg hb, if_neg hb⟩⟩
/-- what lies under A is as it was -/
def Fa (A : Nat) (M M' : Mem) : Prop := ∀ b, b < A → M'.2.1 b = M.2.1 b ∧ M'.2.2 b = M.2.2 b
theorem Fa.rf (A : Nat) (M : Mem) : Fa A M M := fun _ _ => ⟨rfl, rfl⟩
theorem Fa.nw {A B : Nat} {kn : Nat × Nat} {f : Nat → Value} {M0 M M' : Mem} (h : Fa A M0 M) (g : NW B kn f M M') (hB : A ≤ B) : Fa A M0 M' := fun b hb => ⟨(g.2.2.2 b (by omega)).1.trans (h b hb).1, (g.2.2.2 b (by omega)).2.trans (h b hb).2⟩
theorem Fa.wd {A a : Nat} {M0 M M' : Mem} (h : Fa A M0 M) (g : Wd a M M') (ha : A ≤ a) : Fa A M0 M' := fun b hb => ⟨by rw [g.2.1]; exact (h b hb).1, (g.2.2 b (by omega)).trans (h b hb).2⟩
theorem AR.nw {B b n : Nat} {g : Nat → Int32} {kn : Nat × Nat} {f : Nat → Value} {M M' : Mem} (h : AR M b n g) (w : NW B kn f M M') (hb : b ≠ B) : AR M' b n g := ⟨by rw [(w.2.2.2 b hb).1]; exact h.1, fun k hk => by rw [(w.2.2.2 b hb).2]; exact h.2 k hk⟩
section
variable {Y : YY} {R : Room} {Q : Option Value → Mem → Prop} {ls : List (Option Value)} {st : List Value} {M : Mem} {cs ss : Nat}
theorem na_new (pc N A : Nat) {n : Int32} (hd : decode Y.2.1 pc = .ok (.newarray .int, 2)) (hn : n = nI N) (hN : N < 100000) (hA : M.1 = A) (hc : cs + 1 ≤ R.cells) (hs : ss + N ≤ R.slots) (kk : ∀ M', NW A (20, N) (fun _ => .int 0) M M' → AW Y R Q (pc + 2) ls (.ref A :: st) M' (cs + 1) (ss + N)) : AW Y R Q pc ls (.int n :: st) M cs ss :=
  aw_newa pc N hd hn hN hc hs (by rw [hA]; exact kk _ (NW.mk hA))
theorem na_anew (pc k N A : Nat) {n : Int32} {idx : Nat} (hd : decode Y.2.1 pc = .ok (.anewarray idx, 3)) (ck : ckA Y.1.cls idx k = true) (hkk : 21 ≤ k ∧ k < 25) (hn : n = nI N) (hN : N < 100000) (hA : M.1 = A) (hc : cs + 1 ≤ R.cells) (hs : ss + N ≤ R.slots) (kk : ∀ M', NW A (k, N) (fun _ => .null) M M' → AW Y R Q (pc + 3) ls (.ref A :: st) M' (cs + 1) (ss + N)) : AW Y R Q pc ls (.int n :: st) M cs ss :=
  aw_anew pc k N hd ck hkk hn hN hc hs (by rw [hA]; exact kk _ (NW.mk hA))
theorem na_obj (pc N A : Nat) {ci idx : Nat} (hd : decode Y.2.1 pc = .ok (.new idx, 3)) (ck : ckN Y.1.cls idx ci = true) (hN : (vwCl[ci]?.map fun r => r.2.2) = some N) (hA : M.1 = A) (hc : cs + 1 ≤ R.cells) (hs : ss + N ≤ R.slots) (kk : ∀ M', NW A (ci, N) (fun k => defaultValue (tyCl ci k)) M M' → AW Y R Q (pc + 3) ls (.ref A :: st) M' (cs + 1) (ss + N)) : AW Y R Q pc ls st M cs ss :=
  aw_new pc N hd ck hN hc hs (by rw [hA]; exact kk _ (NW.mk hA))
theorem aa_st (pc j : Nat) {a k n w N : Nat} {i : Int32} (hd : decode Y.2.1 pc = .ok (.aastore, 1)) (hk : M.2.1 a = (k, n)) (ha : 2 ≤ a) (hkk : 21 ≤ k ∧ k < 25) (hw : M.2.1 w = (akC k, N)) (hi : i = nI j) (hj : j < n) (hn : n < 2 ^ 31) (kk : ∀ M', Wf a j (.ref w) M M' → AW Y R Q (pc + 1) ls st M' cs ss) : AW Y R Q pc ls (.ref w :: .int i :: .ref a :: st) M cs ss :=
  aw_aast pc j hd hk ha hkk hw hi hj hn (kk _ (Wf.mk M a j _))
end
/-- the trace -/
def TV (M : Mem) (x : Int32) : Prop := M.2.1 16 = (8, 1) ∧ M.2.2 16 0 = .int x
theorem TV.wf {M M' : Mem} {x y : Int32} (h : TV M x) (f : Wf 16 0 (.int y) M M') : TV M' y := ⟨by rw [f.2.1]; exact h.1, f.2.2.1⟩

def rmX8_leave : Room := { frames := 0, cells := 0, slots := 0, locals := 0 }
set_option maxHeartbeats 4000000 in
set_option maxRecDepth 100000 in
theorem c_X8_leave {M0 : Mem} {x v : Int32} (hX : TV M0 x) : AP mX8_leave rmX8_leave [.ref 16, .int v] M0 (none) (Wf 16 0 (.int (31 * x + v)) M0) := by
  refine am_of rfl rfl (ls := [some (.ref 16), some (.int v)]) rfl ?_
  suffices HH : ∀ M, (TV M x) → (M = M0) → AW mX8_leave rmX8_leave (fun r' M' => r' = (none) ∧ (Wf 16 0 (.int (31 * x + v)) M0) M') 0 [some (.ref 16), some (.int v)] [] M 0 0 from HH M0 hX rfl
  intro M hX hM
  subst hM
  refine aw_aload0 0 dX8_leave_0 ?_
  refine aw_bipush 1 31 dX8_leave_1 (by decide) ?_
  refine aw_aload0 3 dX8_leave_3 ?_
  refine aw_get 4 dX8_leave_4 ckF_RX8_7_8 hX.1 hX.2 ?_
  refine aw_imul 7 dX8_leave_7 ?_
  refine aw_iload1 8 dX8_leave_8 ?_
  refine aw_iadd 9 dX8_leave_9 ?_
  refine fp_put 10 dX8_leave_10 ckF_RX8_7_8 ckP8_0 hX.1 rfl rfl (fun M hd => ?_)
  refine aw_vret 13 dX8_leave_13 rfl (Nat.zero_le _) (Nat.zero_le _) ?_
  exact ⟨rfl, hd⟩

def rmX7_takenTelling : Room := { frames := 1, cells := 0, slots := 0, locals := 21 }
set_option maxHeartbeats 4000000 in
set_option maxRecDepth 100000 in
theorem c7_X7_takenTelling {M0 : Mem} {a : Nat} {hr x : Int32} (hk : M0.2.1 a = (7, 3)) (hh : M0.2.2 a 1 = .int hr) (hX : TV M0 x) (ha : a ≠ 16) : AP mX7_takenTelling rmX7_takenTelling [.ref a, .ref 16] M0 (some (.int hr)) (Wf 16 0 (.int (31 * x + 1)) M0) := by
  refine am_of rfl rfl (ls := [some (.ref a), some (.ref 16)]) rfl ?_
  suffices HH : ∀ M, (M.2.1 a = (7, 3)) → (M.2.2 a 1 = .int hr) → (TV M x) → (M = M0) → AW mX7_takenTelling rmX7_takenTelling (fun r' M' => r' = (some (.int hr)) ∧ (Wf 16 0 (.int (31 * x + 1)) M0) M') 0 [some (.ref a), some (.ref 16)] [] M 0 0 from HH M0 hk hh hX rfl
  intro M hk hh hX hM
  subst hM
  refine aw_aload1 0 dX7_takenTelling_0 ?_
  refine aw_ic1 1 dX7_takenTelling_1 ?_
  refine ap_v0 2 dX7_takenTelling_2 (c_X8_leave hX) ckV_RX7_30 cd_X8_leave hX.1 vc8 rfl rfl (Nat.le_of_ble_eq_true rfl) ⟨⟨by decide, by decide⟩, by decide, by decide⟩ rfl (fun M hd => ?_)
  replace hk : M.2.1 a = (7, 3) := by rw [hd.2.1]; exact hk
  replace hh : M.2.2 a 1 = .int hr := (hd.2.2.2 _ _ (fun q => ha q.1)).trans hh
  replace hX := hX.wf hd
  
  refine aw_aload0 5 dX7_takenTelling_5 ?_
  refine aw_get 6 dX7_takenTelling_6 ckF_RX7_15_7 hk hh ?_
  refine aw_iret 9 dX7_takenTelling_9 rfl (Nat.zero_le _) (Nat.zero_le _) ?_
  exact ⟨rfl, hd⟩

set_option maxHeartbeats 4000000 in
set_option maxRecDepth 100000 in
theorem c0_X7_takenTelling {M0 : Mem} {a : Nat} {hr x : Int32} (hk : M0.2.1 a = (0, 5)) (hh : M0.2.2 a 1 = .int hr) (hX : TV M0 x) (ha : a ≠ 16) : AP mX7_takenTelling rmX7_takenTelling [.ref a, .ref 16] M0 (some (.int hr)) (Wf 16 0 (.int (31 * x + 1)) M0) := by
  refine am_of rfl rfl (ls := [some (.ref a), some (.ref 16)]) rfl ?_
  suffices HH : ∀ M, (M.2.1 a = (0, 5)) → (M.2.2 a 1 = .int hr) → (TV M x) → (M = M0) → AW mX7_takenTelling rmX7_takenTelling (fun r' M' => r' = (some (.int hr)) ∧ (Wf 16 0 (.int (31 * x + 1)) M0) M') 0 [some (.ref a), some (.ref 16)] [] M 0 0 from HH M0 hk hh hX rfl
  intro M hk hh hX hM
  subst hM
  refine aw_aload1 0 dX7_takenTelling_0 ?_
  refine aw_ic1 1 dX7_takenTelling_1 ?_
  refine ap_v0 2 dX7_takenTelling_2 (c_X8_leave hX) ckV_RX7_30 cd_X8_leave hX.1 vc8 rfl rfl (Nat.le_of_ble_eq_true rfl) ⟨⟨by decide, by decide⟩, by decide, by decide⟩ rfl (fun M hd => ?_)
  replace hk : M.2.1 a = (0, 5) := by rw [hd.2.1]; exact hk
  replace hh : M.2.2 a 1 = .int hr := (hd.2.2.2 _ _ (fun q => ha q.1)).trans hh
  replace hX := hX.wf hd
  
  refine aw_aload0 5 dX7_takenTelling_5 ?_
  refine aw_get 6 dX7_takenTelling_6 ckF_RX7_15_0 hk hh ?_
  refine aw_iret 9 dX7_takenTelling_9 rfl (Nat.zero_le _) (Nat.zero_le _) ?_
  exact ⟨rfl, hd⟩

set_option maxHeartbeats 4000000 in
set_option maxRecDepth 100000 in
theorem c6_X7_takenTelling {M0 : Mem} {a : Nat} {hr x : Int32} (hk : M0.2.1 a = (6, 5)) (hh : M0.2.2 a 3 = .int hr) (hX : TV M0 x) (ha : a ≠ 16) : AP mX7_takenTelling rmX7_takenTelling [.ref a, .ref 16] M0 (some (.int hr)) (Wf 16 0 (.int (31 * x + 1)) M0) := by
  refine am_of rfl rfl (ls := [some (.ref a), some (.ref 16)]) rfl ?_
  suffices HH : ∀ M, (M.2.1 a = (6, 5)) → (M.2.2 a 3 = .int hr) → (TV M x) → (M = M0) → AW mX7_takenTelling rmX7_takenTelling (fun r' M' => r' = (some (.int hr)) ∧ (Wf 16 0 (.int (31 * x + 1)) M0) M') 0 [some (.ref a), some (.ref 16)] [] M 0 0 from HH M0 hk hh hX rfl
  intro M hk hh hX hM
  subst hM
  refine aw_aload1 0 dX7_takenTelling_0 ?_
  refine aw_ic1 1 dX7_takenTelling_1 ?_
  refine ap_v0 2 dX7_takenTelling_2 (c_X8_leave hX) ckV_RX7_30 cd_X8_leave hX.1 vc8 rfl rfl (Nat.le_of_ble_eq_true rfl) ⟨⟨by decide, by decide⟩, by decide, by decide⟩ rfl (fun M hd => ?_)
  replace hk : M.2.1 a = (6, 5) := by rw [hd.2.1]; exact hk
  replace hh : M.2.2 a 3 = .int hr := (hd.2.2.2 _ _ (fun q => ha q.1)).trans hh
  replace hX := hX.wf hd
  
  refine aw_aload0 5 dX7_takenTelling_5 ?_
  refine aw_get 6 dX7_takenTelling_6 ckF_RX7_15_6 hk hh ?_
  refine aw_iret 9 dX7_takenTelling_9 rfl (Nat.zero_le _) (Nat.zero_le _) ?_
  exact ⟨rfl, hd⟩

def rmX7_telling : Room := { frames := 2, cells := 0, slots := 0, locals := 42 }
set_option maxHeartbeats 4000000 in
set_option maxRecDepth 100000 in
theorem c7_X7_telling {M0 : Mem} {a : Nat} {hr x : Int32} (hk : M0.2.1 a = (7, 3)) (hh : M0.2.2 a 1 = .int hr) (hX : TV M0 x) (ha : a ≠ 16) : AP mX7_telling rmX7_telling [.ref a, .ref 16] M0 (some (.int hr)) (Wf 16 0 (.int (31 * x + 1)) M0) := by
  refine am_of rfl rfl (ls := [some (.ref a), some (.ref 16)]) rfl ?_
  suffices HH : ∀ M, (M.2.1 a = (7, 3)) → (M.2.2 a 1 = .int hr) → (TV M x) → (M = M0) → AW mX7_telling rmX7_telling (fun r' M' => r' = (some (.int hr)) ∧ (Wf 16 0 (.int (31 * x + 1)) M0) M') 0 [some (.ref a), some (.ref 16)] [] M 0 0 from HH M0 hk hh hX rfl
  intro M hk hh hX hM
  subst hM
  refine aw_aload0 0 dX7_telling_0 ?_
  refine aw_aload1 1 dX7_telling_1 ?_
  refine ap_u1 (rr := (RX7, TX7, 3)) (owner := RX7) (y := ⟨RX7, "takenTelling", "(LPicturePapers$Trace;)I"⟩) 2 dX7_telling_2 (c7_X7_takenTelling hk hh hX ha) ckU_RX7_26_7 cd_X7_takenTelling cd_X7_takenTelling hk vc7 rfl (Nat.le_of_ble_eq_true rfl) ⟨⟨by decide, by decide⟩, by decide, by decide⟩ rfl (fun M hd => ?_)
  refine aw_iret 5 dX7_telling_5 rfl (Nat.zero_le _) (Nat.zero_le _) ?_
  exact ⟨rfl, hd⟩

set_option maxHeartbeats 4000000 in
set_option maxRecDepth 100000 in
theorem c0_X7_telling {M0 : Mem} {a : Nat} {hr x : Int32} (hk : M0.2.1 a = (0, 5)) (hh : M0.2.2 a 1 = .int hr) (hX : TV M0 x) (ha : a ≠ 16) : AP mX7_telling rmX7_telling [.ref a, .ref 16] M0 (some (.int hr)) (Wf 16 0 (.int (31 * x + 1)) M0) := by
  refine am_of rfl rfl (ls := [some (.ref a), some (.ref 16)]) rfl ?_
  suffices HH : ∀ M, (M.2.1 a = (0, 5)) → (M.2.2 a 1 = .int hr) → (TV M x) → (M = M0) → AW mX7_telling rmX7_telling (fun r' M' => r' = (some (.int hr)) ∧ (Wf 16 0 (.int (31 * x + 1)) M0) M') 0 [some (.ref a), some (.ref 16)] [] M 0 0 from HH M0 hk hh hX rfl
  intro M hk hh hX hM
  subst hM
  refine aw_aload0 0 dX7_telling_0 ?_
  refine aw_aload1 1 dX7_telling_1 ?_
  refine ap_u1 (rr := (RX0, TX0, 5)) (owner := RX7) (y := ⟨RX7, "takenTelling", "(LPicturePapers$Trace;)I"⟩) 2 dX7_telling_2 (c0_X7_takenTelling hk hh hX ha) ckU_RX7_26_0 cd_X7_takenTelling cd_X7_takenTelling hk vc0 rfl (Nat.le_of_ble_eq_true rfl) ⟨⟨by decide, by decide⟩, by decide, by decide⟩ rfl (fun M hd => ?_)
  refine aw_iret 5 dX7_telling_5 rfl (Nat.zero_le _) (Nat.zero_le _) ?_
  exact ⟨rfl, hd⟩

set_option maxHeartbeats 4000000 in
set_option maxRecDepth 100000 in
theorem c6_X7_telling {M0 : Mem} {a : Nat} {hr x : Int32} (hk : M0.2.1 a = (6, 5)) (hh : M0.2.2 a 3 = .int hr) (hX : TV M0 x) (ha : a ≠ 16) : AP mX7_telling rmX7_telling [.ref a, .ref 16] M0 (some (.int hr)) (Wf 16 0 (.int (31 * x + 1)) M0) := by
  refine am_of rfl rfl (ls := [some (.ref a), some (.ref 16)]) rfl ?_
  suffices HH : ∀ M, (M.2.1 a = (6, 5)) → (M.2.2 a 3 = .int hr) → (TV M x) → (M = M0) → AW mX7_telling rmX7_telling (fun r' M' => r' = (some (.int hr)) ∧ (Wf 16 0 (.int (31 * x + 1)) M0) M') 0 [some (.ref a), some (.ref 16)] [] M 0 0 from HH M0 hk hh hX rfl
  intro M hk hh hX hM
  subst hM
  refine aw_aload0 0 dX7_telling_0 ?_
  refine aw_aload1 1 dX7_telling_1 ?_
  refine ap_u1 (rr := (RX6, TX6, 5)) (owner := RX7) (y := ⟨RX7, "takenTelling", "(LPicturePapers$Trace;)I"⟩) 2 dX7_telling_2 (c6_X7_takenTelling hk hh hX ha) ckU_RX7_26_6 cd_X7_takenTelling cd_X7_takenTelling hk vc6 rfl (Nat.le_of_ble_eq_true rfl) ⟨⟨by decide, by decide⟩, by decide, by decide⟩ rfl (fun M hd => ?_)
  refine aw_iret 5 dX7_telling_5 rfl (Nat.zero_le _) (Nat.zero_le _) ?_
  exact ⟨rfl, hd⟩

def rmX0_telling : Room := { frames := 3, cells := 0, slots := 0, locals := 63 }
set_option maxHeartbeats 4000000 in
set_option maxRecDepth 100000 in
theorem c0_X0_telling {M0 : Mem} {a : Nat} {hr x : Int32} (hk : M0.2.1 a = (0, 5)) (hh : M0.2.2 a 1 = .int hr) (hX : TV M0 x) (ha : a ≠ 16) : AP mX0_telling rmX0_telling [.ref a, .ref 16] M0 (some (.int (hr + 1000))) (Wf 16 0 (.int (31 * (31 * x + 2) + 1)) M0) := by
  refine am_of rfl rfl (ls := [some (.ref a), some (.ref 16)]) rfl ?_
  suffices HH : ∀ M, (M.2.1 a = (0, 5)) → (M.2.2 a 1 = .int hr) → (TV M x) → (M = M0) → AW mX0_telling rmX0_telling (fun r' M' => r' = (some (.int (hr + 1000))) ∧ (Wf 16 0 (.int (31 * (31 * x + 2) + 1)) M0) M') 0 [some (.ref a), some (.ref 16)] [] M 0 0 from HH M0 hk hh hX rfl
  intro M hk hh hX hM
  subst hM
  refine aw_aload1 0 dX0_telling_0 ?_
  refine aw_ic2 1 dX0_telling_1 ?_
  refine ap_v0 2 dX0_telling_2 (c_X8_leave hX) ckV_RX0_19 cd_X8_leave hX.1 vc8 rfl rfl (Nat.le_of_ble_eq_true rfl) ⟨⟨by decide, by decide⟩, by decide, by decide⟩ rfl (fun M hd => ?_)
  replace hk : M.2.1 a = (0, 5) := by rw [hd.2.1]; exact hk
  replace hh : M.2.2 a 1 = .int hr := (hd.2.2.2 _ _ (fun q => ha q.1)).trans hh
  replace hX := hX.wf hd
  have hd0 := hd
  refine aw_aload0 5 dX0_telling_5 ?_
  refine aw_aload1 6 dX0_telling_6 ?_
  refine ap_super1 7 dX0_telling_7 (c0_X7_telling hk hh hX ha) ckSU_RX0_25 cd_X7_telling hk vc0 rfl (Nat.le_of_ble_eq_true rfl) ⟨⟨by decide, by decide⟩, by decide, by decide⟩ rfl (fun M hd => ?_)
  refine aw_sipush 10 1000 dX0_telling_10 (by decide) ?_
  refine aw_iadd 13 dX0_telling_13 ?_
  refine aw_iret 14 dX0_telling_14 rfl (Nat.zero_le _) (Nat.zero_le _) ?_
  exact ⟨rfl, hd0.trans hd⟩

set_option maxHeartbeats 4000000 in
set_option maxRecDepth 100000 in
theorem c6_X0_telling {M0 : Mem} {a : Nat} {hr x : Int32} (hk : M0.2.1 a = (6, 5)) (hh : M0.2.2 a 3 = .int hr) (hX : TV M0 x) (ha : a ≠ 16) : AP mX0_telling rmX0_telling [.ref a, .ref 16] M0 (some (.int (hr + 1000))) (Wf 16 0 (.int (31 * (31 * x + 2) + 1)) M0) := by
  refine am_of rfl rfl (ls := [some (.ref a), some (.ref 16)]) rfl ?_
  suffices HH : ∀ M, (M.2.1 a = (6, 5)) → (M.2.2 a 3 = .int hr) → (TV M x) → (M = M0) → AW mX0_telling rmX0_telling (fun r' M' => r' = (some (.int (hr + 1000))) ∧ (Wf 16 0 (.int (31 * (31 * x + 2) + 1)) M0) M') 0 [some (.ref a), some (.ref 16)] [] M 0 0 from HH M0 hk hh hX rfl
  intro M hk hh hX hM
  subst hM
  refine aw_aload1 0 dX0_telling_0 ?_
  refine aw_ic2 1 dX0_telling_1 ?_
  refine ap_v0 2 dX0_telling_2 (c_X8_leave hX) ckV_RX0_19 cd_X8_leave hX.1 vc8 rfl rfl (Nat.le_of_ble_eq_true rfl) ⟨⟨by decide, by decide⟩, by decide, by decide⟩ rfl (fun M hd => ?_)
  replace hk : M.2.1 a = (6, 5) := by rw [hd.2.1]; exact hk
  replace hh : M.2.2 a 3 = .int hr := (hd.2.2.2 _ _ (fun q => ha q.1)).trans hh
  replace hX := hX.wf hd
  have hd0 := hd
  refine aw_aload0 5 dX0_telling_5 ?_
  refine aw_aload1 6 dX0_telling_6 ?_
  refine ap_super1 7 dX0_telling_7 (c6_X7_telling hk hh hX ha) ckSU_RX0_25 cd_X7_telling hk vc6 rfl (Nat.le_of_ble_eq_true rfl) ⟨⟨by decide, by decide⟩, by decide, by decide⟩ rfl (fun M hd => ?_)
  refine aw_sipush 10 1000 dX0_telling_10 (by decide) ?_
  refine aw_iadd 13 dX0_telling_13 ?_
  refine aw_iret 14 dX0_telling_14 rfl (Nat.zero_le _) (Nat.zero_le _) ?_
  exact ⟨rfl, hd0.trans hd⟩

def rmX6_telling : Room := { frames := 4, cells := 0, slots := 0, locals := 84 }
set_option maxHeartbeats 4000000 in
set_option maxRecDepth 100000 in
theorem c_X6_telling {M0 : Mem} {a : Nat} {hr x : Int32} (hk : M0.2.1 a = (6, 5)) (hh : M0.2.2 a 3 = .int hr) (hX : TV M0 x) (ha : a ≠ 16) : AP mX6_telling rmX6_telling [.ref a, .ref 16] M0 (some (.int (hr + 1000 + hr))) (Wf 16 0 (.int (31 * (31 * (31 * (31 * x + 3) + 2) + 1) + 1)) M0) := by
  refine am_of rfl rfl (ls := [some (.ref a), some (.ref 16)]) rfl ?_
  suffices HH : ∀ M, (M.2.1 a = (6, 5)) → (M.2.2 a 3 = .int hr) → (TV M x) → (M = M0) → AW mX6_telling rmX6_telling (fun r' M' => r' = (some (.int (hr + 1000 + hr))) ∧ (Wf 16 0 (.int (31 * (31 * (31 * (31 * x + 3) + 2) + 1) + 1)) M0) M') 0 [some (.ref a), some (.ref 16)] [] M 0 0 from HH M0 hk hh hX rfl
  intro M hk hh hX hM
  subst hM
  refine aw_aload1 0 dX6_telling_0 ?_
  refine aw_ic3 1 dX6_telling_1 ?_
  refine ap_v0 2 dX6_telling_2 (c_X8_leave hX) ckV_RX6_13 cd_X8_leave hX.1 vc8 rfl rfl (Nat.le_of_ble_eq_true rfl) ⟨⟨by decide, by decide⟩, by decide, by decide⟩ rfl (fun M hd => ?_)
  replace hk : M.2.1 a = (6, 5) := by rw [hd.2.1]; exact hk
  replace hh : M.2.2 a 3 = .int hr := (hd.2.2.2 _ _ (fun q => ha q.1)).trans hh
  replace hX := hX.wf hd
  have hd0 := hd
  refine aw_aload0 5 dX6_telling_5 ?_
  refine aw_aload1 6 dX6_telling_6 ?_
  refine ap_super1 7 dX6_telling_7 (c6_X0_telling hk hh hX ha) ckSU_RX6_19 cd_X0_telling hk vc6 rfl (Nat.le_of_ble_eq_true rfl) ⟨⟨by decide, by decide⟩, by decide, by decide⟩ rfl (fun M hd => ?_)
  replace hk : M.2.1 a = (6, 5) := by rw [hd.2.1]; exact hk
  replace hh : M.2.2 a 3 = .int hr := (hd.2.2.2 _ _ (fun q => ha q.1)).trans hh
  replace hX := hX.wf hd
  have hd1 := hd0.trans hd
  refine aw_aload0 10 dX6_telling_10 ?_
  refine aw_aload1 11 dX6_telling_11 ?_
  refine ap_u1 (rr := (RX6, TX6, 5)) (owner := RX7) (y := ⟨RX6, "takenTelling", "(LPicturePapers$Trace;)I"⟩) 12 dX6_telling_12 (c6_X7_takenTelling hk hh hX ha) ckU_RX6_23_6 cd_X7_takenTelling cd_X7_takenTelling hk vc6 rfl (Nat.le_of_ble_eq_true rfl) ⟨⟨by decide, by decide⟩, by decide, by decide⟩ rfl (fun M hd => ?_)
  refine aw_iadd 15 dX6_telling_15 ?_
  refine aw_iret 16 dX6_telling_16 rfl (Nat.zero_le _) (Nat.zero_le _) ?_
  exact ⟨rfl, hd1.trans hd⟩

def rmX7_showing : Room := { frames := 1, cells := 0, slots := 0, locals := 21 }
set_option maxHeartbeats 4000000 in
set_option maxRecDepth 100000 in
theorem c7_X7_showing {M0 : Mem} {a : Nat} {hr x : Int32} (hk : M0.2.1 a = (7, 3)) (hh : M0.2.2 a 2 = .int hr) (hX : TV M0 x) (ha : a ≠ 16) : AP mX7_showing rmX7_showing [.ref a, .ref 16] M0 (some (.int hr)) (Wf 16 0 (.int (31 * x + 4)) M0) := by
  refine am_of rfl rfl (ls := [some (.ref a), some (.ref 16)]) rfl ?_
  suffices HH : ∀ M, (M.2.1 a = (7, 3)) → (M.2.2 a 2 = .int hr) → (TV M x) → (M = M0) → AW mX7_showing rmX7_showing (fun r' M' => r' = (some (.int hr)) ∧ (Wf 16 0 (.int (31 * x + 4)) M0) M') 0 [some (.ref a), some (.ref 16)] [] M 0 0 from HH M0 hk hh hX rfl
  intro M hk hh hX hM
  subst hM
  refine aw_aload1 0 dX7_showing_0 ?_
  refine aw_ic4 1 dX7_showing_1 ?_
  refine ap_v0 2 dX7_showing_2 (c_X8_leave hX) ckV_RX7_30 cd_X8_leave hX.1 vc8 rfl rfl (Nat.le_of_ble_eq_true rfl) ⟨⟨by decide, by decide⟩, by decide, by decide⟩ rfl (fun M hd => ?_)
  replace hk : M.2.1 a = (7, 3) := by rw [hd.2.1]; exact hk
  replace hh : M.2.2 a 2 = .int hr := (hd.2.2.2 _ _ (fun q => ha q.1)).trans hh
  replace hX := hX.wf hd
  
  refine aw_aload0 5 dX7_showing_5 ?_
  refine aw_get 6 dX7_showing_6 ckF_RX7_19_7 hk hh ?_
  refine aw_iret 9 dX7_showing_9 rfl (Nat.zero_le _) (Nat.zero_le _) ?_
  exact ⟨rfl, hd⟩

set_option maxHeartbeats 4000000 in
set_option maxRecDepth 100000 in
theorem c0_X7_showing {M0 : Mem} {a : Nat} {hr x : Int32} (hk : M0.2.1 a = (0, 5)) (hh : M0.2.2 a 2 = .int hr) (hX : TV M0 x) (ha : a ≠ 16) : AP mX7_showing rmX7_showing [.ref a, .ref 16] M0 (some (.int hr)) (Wf 16 0 (.int (31 * x + 4)) M0) := by
  refine am_of rfl rfl (ls := [some (.ref a), some (.ref 16)]) rfl ?_
  suffices HH : ∀ M, (M.2.1 a = (0, 5)) → (M.2.2 a 2 = .int hr) → (TV M x) → (M = M0) → AW mX7_showing rmX7_showing (fun r' M' => r' = (some (.int hr)) ∧ (Wf 16 0 (.int (31 * x + 4)) M0) M') 0 [some (.ref a), some (.ref 16)] [] M 0 0 from HH M0 hk hh hX rfl
  intro M hk hh hX hM
  subst hM
  refine aw_aload1 0 dX7_showing_0 ?_
  refine aw_ic4 1 dX7_showing_1 ?_
  refine ap_v0 2 dX7_showing_2 (c_X8_leave hX) ckV_RX7_30 cd_X8_leave hX.1 vc8 rfl rfl (Nat.le_of_ble_eq_true rfl) ⟨⟨by decide, by decide⟩, by decide, by decide⟩ rfl (fun M hd => ?_)
  replace hk : M.2.1 a = (0, 5) := by rw [hd.2.1]; exact hk
  replace hh : M.2.2 a 2 = .int hr := (hd.2.2.2 _ _ (fun q => ha q.1)).trans hh
  replace hX := hX.wf hd
  
  refine aw_aload0 5 dX7_showing_5 ?_
  refine aw_get 6 dX7_showing_6 ckF_RX7_19_0 hk hh ?_
  refine aw_iret 9 dX7_showing_9 rfl (Nat.zero_le _) (Nat.zero_le _) ?_
  exact ⟨rfl, hd⟩

def rmX6_showing : Room := { frames := 1, cells := 0, slots := 0, locals := 21 }
set_option maxHeartbeats 4000000 in
set_option maxRecDepth 100000 in
theorem c_X6_showing {M0 : Mem} {a : Nat} {x : Int32} (hX : TV M0 x) : AP mX6_showing rmX6_showing [.ref a, .ref 16] M0 (some (.int 33)) (Wf 16 0 (.int (31 * x + 5)) M0) := by
  refine am_of rfl rfl (ls := [some (.ref a), some (.ref 16)]) rfl ?_
  suffices HH : ∀ M, (TV M x) → (M = M0) → AW mX6_showing rmX6_showing (fun r' M' => r' = (some (.int 33)) ∧ (Wf 16 0 (.int (31 * x + 5)) M0) M') 0 [some (.ref a), some (.ref 16)] [] M 0 0 from HH M0 hX rfl
  intro M hX hM
  subst hM
  refine aw_aload1 0 dX6_showing_0 ?_
  refine aw_ic5 1 dX6_showing_1 ?_
  refine ap_v0 2 dX6_showing_2 (c_X8_leave hX) ckV_RX6_13 cd_X8_leave hX.1 vc8 rfl rfl (Nat.le_of_ble_eq_true rfl) ⟨⟨by decide, by decide⟩, by decide, by decide⟩ rfl (fun M hd => ?_)
  refine aw_bipush 5 33 dX6_showing_5 (by decide) ?_
  refine aw_iret 7 dX6_showing_7 rfl (Nat.zero_le _) (Nat.zero_le _) ?_
  exact ⟨rfl, hd⟩

def rmX7_kind : Room := { frames := 0, cells := 0, slots := 0, locals := 0 }
set_option maxHeartbeats 4000000 in
set_option maxRecDepth 100000 in
theorem c_X7_kind {M : Mem} {a : Nat} : CR mX7_kind rmX7_kind [.ref a] M (some (.int 0)) := by
  refine am_of rfl rfl (ls := [some (.ref a)]) rfl ?_
  refine aw_ic0 0 dX7_kind_0 ?_
  refine aw_iret 1 dX7_kind_1 rfl (Nat.zero_le _) (Nat.zero_le _) ?_
  exact ⟨rfl, rfl⟩

def rmX0_kind : Room := { frames := 0, cells := 0, slots := 0, locals := 0 }
set_option maxHeartbeats 4000000 in
set_option maxRecDepth 100000 in
theorem c_X0_kind {M : Mem} {a : Nat} : CR mX0_kind rmX0_kind [.ref a] M (some (.int 1)) := by
  refine am_of rfl rfl (ls := [some (.ref a)]) rfl ?_
  refine aw_ic1 0 dX0_kind_0 ?_
  refine aw_iret 1 dX0_kind_1 rfl (Nat.zero_le _) (Nat.zero_le _) ?_
  exact ⟨rfl, rfl⟩

def rmX6_kind : Room := { frames := 0, cells := 0, slots := 0, locals := 0 }
set_option maxHeartbeats 4000000 in
set_option maxRecDepth 100000 in
theorem c_X6_kind {M : Mem} {a : Nat} : CR mX6_kind rmX6_kind [.ref a] M (some (.int 2)) := by
  refine am_of rfl rfl (ls := [some (.ref a)]) rfl ?_
  refine aw_ic2 0 dX6_kind_0 ?_
  refine aw_iret 1 dX6_kind_1 rfl (Nat.zero_le _) (Nat.zero_le _) ?_
  exact ⟨rfl, rfl⟩

def rmX7_origin : Room := { frames := 0, cells := 0, slots := 0, locals := 0 }
set_option maxHeartbeats 4000000 in
set_option maxRecDepth 100000 in
theorem c_X7_origin {M : Mem} {a : Nat} : CR mX7_origin rmX7_origin [.ref a] M (some .null) := by
  refine am_of rfl rfl (ls := [some (.ref a)]) rfl ?_
  refine aw_null 0 dX7_origin_0 ?_
  refine aw_aretN 1 dX7_origin_1 rfl (Or.inl ⟨_, rfl⟩) (Nat.zero_le _) (Nat.zero_le _) ?_
  exact ⟨rfl, rfl⟩

def rmX7_acts : Room := { frames := 0, cells := 0, slots := 0, locals := 0 }
set_option maxHeartbeats 4000000 in
set_option maxRecDepth 100000 in
theorem c_X7_acts {M : Mem} {a : Nat} : CR mX7_acts rmX7_acts [.ref a] M (some (.ref 1)) := by
  refine am_of rfl rfl (ls := [some (.ref a)]) rfl ?_
  refine aw_gets 0 dX7_acts_0 (by decide) ?_
  refine aw_aret 3 dX7_acts_3 rfl (Or.inr ⟨_, rfl⟩) (Nat.zero_le _) (Nat.zero_le _) ?_
  exact ⟨rfl, rfl⟩

def rmX0_origin : Room := { frames := 0, cells := 0, slots := 0, locals := 0 }
set_option maxHeartbeats 4000000 in
set_option maxRecDepth 100000 in
theorem c0_X0_origin {M : Mem} {a b : Nat} (hk : M.2.1 a = (0, 5)) (hb : M.2.2 a 3 = .ref b) : CR mX0_origin rmX0_origin [.ref a] M (some (.ref b)) := by
  refine am_of rfl rfl (ls := [some (.ref a)]) rfl ?_
  refine aw_aload0 0 dX0_origin_0 ?_
  refine aw_get 1 dX0_origin_1 ckF_RX0_9_0 hk hb ?_
  refine aw_aret 4 dX0_origin_4 rfl (Or.inl ⟨_, rfl⟩) (Nat.zero_le _) (Nat.zero_le _) ?_
  exact ⟨rfl, rfl⟩

def rmX0_acts : Room := { frames := 0, cells := 0, slots := 0, locals := 0 }
set_option maxHeartbeats 4000000 in
set_option maxRecDepth 100000 in
theorem c0_X0_acts {M : Mem} {a b : Nat} (hk : M.2.1 a = (0, 5)) (hb : M.2.2 a 4 = .ref b) : CR mX0_acts rmX0_acts [.ref a] M (some (.ref b)) := by
  refine am_of rfl rfl (ls := [some (.ref a)]) rfl ?_
  refine aw_aload0 0 dX0_acts_0 ?_
  refine aw_get 1 dX0_acts_1 ckF_RX0_15_0 hk hb ?_
  refine aw_aret 4 dX0_acts_4 rfl (Or.inr ⟨_, rfl⟩) (Nat.zero_le _) (Nat.zero_le _) ?_
  exact ⟨rfl, rfl⟩

set_option maxHeartbeats 4000000 in
set_option maxRecDepth 100000 in
theorem c6_X0_origin {M : Mem} {a b : Nat} (hk : M.2.1 a = (6, 5)) (hb : M.2.2 a 0 = .ref b) : CR mX0_origin rmX0_origin [.ref a] M (some (.ref b)) := by
  refine am_of rfl rfl (ls := [some (.ref a)]) rfl ?_
  refine aw_aload0 0 dX0_origin_0 ?_
  refine aw_get 1 dX0_origin_1 ckF_RX0_9_6 hk hb ?_
  refine aw_aret 4 dX0_origin_4 rfl (Or.inl ⟨_, rfl⟩) (Nat.zero_le _) (Nat.zero_le _) ?_
  exact ⟨rfl, rfl⟩

set_option maxHeartbeats 4000000 in
set_option maxRecDepth 100000 in
theorem c6_X0_acts {M : Mem} {a b : Nat} (hk : M.2.1 a = (6, 5)) (hb : M.2.2 a 1 = .ref b) : CR mX0_acts rmX0_acts [.ref a] M (some (.ref b)) := by
  refine am_of rfl rfl (ls := [some (.ref a)]) rfl ?_
  refine aw_aload0 0 dX0_acts_0 ?_
  refine aw_get 1 dX0_acts_1 ckF_RX0_15_6 hk hb ?_
  refine aw_aret 4 dX0_acts_4 rfl (Or.inr ⟨_, rfl⟩) (Nat.zero_le _) (Nat.zero_le _) ?_
  exact ⟨rfl, rfl⟩

def rmX3_origin : Room := { frames := 1, cells := 0, slots := 0, locals := 20 }
set_option maxHeartbeats 4000000 in
set_option maxRecDepth 100000 in
theorem n_X3_origin {M : Mem} {a : Nat} {n w h : Int32} {g : Nat → Int32} (hP : PV M a n w h g .null) : CR mX3_origin rmX3_origin [.ref a] M (some .null) := by
  refine am_of rfl rfl (ls := [some (.ref a)]) rfl ?_
  refine aw_aload0 0 dX3_origin_0 ?_
  refine aw_get 1 dX3_origin_1 ckF_RX3_51_3 hP.1 hP.2.2.2.2.2.1 ?_
  refine aw_ifnonnullN 4 dX3_origin_4 ?_
  refine aw_null 7 dX3_origin_7 ?_
  refine aw_goto 8 18 dX3_origin_8 (by decide) ?_
  refine aw_aretN 18 dX3_origin_18 rfl (Or.inl ⟨_, rfl⟩) (Nat.zero_le _) (Nat.zero_le _) ?_
  exact ⟨rfl, rfl⟩

set_option maxHeartbeats 4000000 in
set_option maxRecDepth 100000 in
theorem t_X3_origin {M : Mem} {a : Nat} {n w h : Int32} {g : Nat → Int32} {e : Nat} (hP : PV M a n w h g (.ref e)) (hk : M.2.1 e = (7, 3)) : CR mX3_origin rmX3_origin [.ref a] M (some .null) := by
  refine am_of rfl rfl (ls := [some (.ref a)]) rfl ?_
  refine aw_aload0 0 dX3_origin_0 ?_
  refine aw_get 1 dX3_origin_1 ckF_RX3_51_3 hP.1 hP.2.2.2.2.2.1 ?_
  refine aw_ifnonnull 4 11 dX3_origin_4 (by decide) ?_
  refine aw_aload0 11 dX3_origin_11 ?_
  refine aw_get 12 dX3_origin_12 ckF_RX3_51_3 hP.1 hP.2.2.2.2.2.1 ?_
  refine cr_u1 (rr := (RX7, TX7, 3)) (owner := RX7) (y := ⟨RX7, "origin", "()LPicturePapers$Picture;"⟩) 15 dX3_origin_15 (c_X7_origin) ckU_RX3_55_7 cd_X7_origin cd_X7_origin hk vc7 rfl (Nat.le_of_ble_eq_true rfl) ⟨⟨by decide, by decide⟩, by decide, by decide⟩ rfl ?_
  refine aw_aretN 18 dX3_origin_18 rfl (Or.inl ⟨_, rfl⟩) (Nat.zero_le _) (Nat.zero_le _) ?_
  exact ⟨rfl, rfl⟩

set_option maxHeartbeats 4000000 in
set_option maxRecDepth 100000 in
theorem c_X3_origin {M : Mem} {a : Nat} {n w h : Int32} {g : Nat → Int32} {e b : Nat} (hP : PV M a n w h g (.ref e)) (hk : M.2.1 e = (0, 5)) (hb : M.2.2 e 3 = .ref b) : CR mX3_origin rmX3_origin [.ref a] M (some (.ref b)) := by
  refine am_of rfl rfl (ls := [some (.ref a)]) rfl ?_
  refine aw_aload0 0 dX3_origin_0 ?_
  refine aw_get 1 dX3_origin_1 ckF_RX3_51_3 hP.1 hP.2.2.2.2.2.1 ?_
  refine aw_ifnonnull 4 11 dX3_origin_4 (by decide) ?_
  refine aw_aload0 11 dX3_origin_11 ?_
  refine aw_get 12 dX3_origin_12 ckF_RX3_51_3 hP.1 hP.2.2.2.2.2.1 ?_
  refine cr_u1 (rr := (RX0, TX0, 5)) (owner := RX7) (y := ⟨RX7, "origin", "()LPicturePapers$Picture;"⟩) 15 dX3_origin_15 (c0_X0_origin hk hb) ckU_RX3_55_0 cd_X0_origin cd_X7_origin hk vc0 rfl (Nat.le_of_ble_eq_true rfl) ⟨⟨by decide, by decide⟩, by decide, by decide⟩ rfl ?_
  refine aw_aret 18 dX3_origin_18 rfl (Or.inl ⟨_, rfl⟩) (Nat.zero_le _) (Nat.zero_le _) ?_
  exact ⟨rfl, rfl⟩

set_option maxHeartbeats 4000000 in
set_option maxRecDepth 100000 in
theorem s_X3_origin {M : Mem} {a : Nat} {n w h : Int32} {g : Nat → Int32} {e b : Nat} (hP : PV M a n w h g (.ref e)) (hk : M.2.1 e = (6, 5)) (hb : M.2.2 e 0 = .ref b) : CR mX3_origin rmX3_origin [.ref a] M (some (.ref b)) := by
  refine am_of rfl rfl (ls := [some (.ref a)]) rfl ?_
  refine aw_aload0 0 dX3_origin_0 ?_
  refine aw_get 1 dX3_origin_1 ckF_RX3_51_3 hP.1 hP.2.2.2.2.2.1 ?_
  refine aw_ifnonnull 4 11 dX3_origin_4 (by decide) ?_
  refine aw_aload0 11 dX3_origin_11 ?_
  refine aw_get 12 dX3_origin_12 ckF_RX3_51_3 hP.1 hP.2.2.2.2.2.1 ?_
  refine cr_u1 (rr := (RX6, TX6, 5)) (owner := RX7) (y := ⟨RX7, "origin", "()LPicturePapers$Picture;"⟩) 15 dX3_origin_15 (c6_X0_origin hk hb) ckU_RX3_55_6 cd_X0_origin cd_X7_origin hk vc6 rfl (Nat.le_of_ble_eq_true rfl) ⟨⟨by decide, by decide⟩, by decide, by decide⟩ rfl ?_
  refine aw_aret 18 dX3_origin_18 rfl (Or.inl ⟨_, rfl⟩) (Nat.zero_le _) (Nat.zero_le _) ?_
  exact ⟨rfl, rfl⟩

def rmX1_init : Room := { frames := 1, cells := 0, slots := 0, locals := 20 }
set_option maxHeartbeats 4000000 in
set_option maxRecDepth 100000 in
theorem c_X1_init {M0 : Mem} {a : Nat} {n k : Int32} (hk : M0.2.1 a = (1, 3)) : AP mX1_init rmX1_init [.ref a, .int n, .int k] M0 (none) (fun M => Wd a M0 M ∧ M.2.2 a 2 = .int 1000 ∧ M.2.2 a 0 = .int n ∧ M.2.2 a 1 = .int k) := by
  refine am_of rfl rfl (ls := [some (.ref a), some (.int n), some (.int k)]) rfl ?_
  suffices HH : ∀ M, (M.2.1 a = (1, 3)) → (Wd a M0 M) → AW mX1_init rmX1_init (fun r' M' => r' = (none) ∧ (fun M => Wd a M0 M ∧ M.2.2 a 2 = .int 1000 ∧ M.2.2 a 0 = .int n ∧ M.2.2 a 1 = .int k) M') 0 [some (.ref a), some (.int n), some (.int k)] [] M 0 0 from HH M0 hk (Wd.rf _ M0)
  intro M hk hW
  refine aw_aload0 0 dX1_init_0 ?_
  refine aw_objInit 1 dX1_init_1 ckO_RX1_3 (Nat.le_of_ble_eq_true rfl) (by decide) (by decide) ?_
  refine aw_aload0 4 dX1_init_4 ?_
  refine aw_sipush 5 1000 dX1_init_5 (by decide) ?_
  refine fp_put 8 dX1_init_8 ckF_RX1_9_1 ckP1_2 hk rfl rfl (fun M hd => ?_)
  replace hk : M.2.1 a = (1, 3) := by rw [hd.2.1]; exact hk
  replace hW := hW.trans hd.toWd
  have q2 := hd.2.2.1
  refine aw_aload0 11 dX1_init_11 ?_
  refine aw_iload1 12 dX1_init_12 ?_
  refine fp_putF 13 dX1_init_13 ckF_RX1_15_1 ckQ_RX1_1_0 rfl hk rfl rfl (fun M hd => ?_)
  replace hk : M.2.1 a = (1, 3) := by rw [hd.2.1]; exact hk
  replace hW := hW.trans hd.toWd
  replace q2 : M.2.2 a 2 = .int 1000 := (hd.2.2.2 _ _ (by omega)).trans q2
  have q0 := hd.2.2.1
  refine aw_aload0 16 dX1_init_16 ?_
  refine aw_iload2 17 dX1_init_17 ?_
  refine fp_putF 18 dX1_init_18 ckF_RX1_18_1 ckQ_RX1_1_1 rfl hk rfl rfl (fun M hd => ?_)
  replace hk : M.2.1 a = (1, 3) := by rw [hd.2.1]; exact hk
  replace hW := hW.trans hd.toWd
  replace q2 : M.2.2 a 2 = .int 1000 := (hd.2.2.2 _ _ (by omega)).trans q2
  replace q0 : M.2.2 a 0 = .int n := (hd.2.2.2 _ _ (by omega)).trans q0
  have q1 := hd.2.2.1
  refine aw_vret 21 dX1_init_21 rfl (Nat.zero_le _) (Nat.zero_le _) ?_
  exact ⟨rfl, hW, q2, q0, q1⟩

def rmX2_init : Room := { frames := 1, cells := 0, slots := 0, locals := 20 }
set_option maxHeartbeats 4000000 in
set_option maxRecDepth 100000 in
theorem c_X2_init {M0 : Mem} {a l : Nat} {h w : Int32} (hk : M0.2.1 a = (2, 3)) : AP mX2_init rmX2_init [.ref a, .ref l, .int h, .int w] M0 (none) (fun M => Wd a M0 M ∧ M.2.2 a 0 = .ref l ∧ M.2.2 a 1 = .int h ∧ M.2.2 a 2 = .int w) := by
  refine am_of rfl rfl (ls := [some (.ref a), some (.ref l), some (.int h), some (.int w)]) rfl ?_
  suffices HH : ∀ M, (M.2.1 a = (2, 3)) → (Wd a M0 M) → AW mX2_init rmX2_init (fun r' M' => r' = (none) ∧ (fun M => Wd a M0 M ∧ M.2.2 a 0 = .ref l ∧ M.2.2 a 1 = .int h ∧ M.2.2 a 2 = .int w) M') 0 [some (.ref a), some (.ref l), some (.int h), some (.int w)] [] M 0 0 from HH M0 hk (Wd.rf _ M0)
  intro M hk hW
  refine aw_aload0 0 dX2_init_0 ?_
  refine aw_objInit 1 dX2_init_1 ckO_RX2_1 (Nat.le_of_ble_eq_true rfl) (by decide) (by decide) ?_
  refine aw_aload0 4 dX2_init_4 ?_
  refine aw_aload1 5 dX2_init_5 ?_
  refine fp_putF 6 dX2_init_6 ckF_RX2_7_2 ckQ_RX2_2_0 rfl hk rfl rfl (fun M hd => ?_)
  replace hk : M.2.1 a = (2, 3) := by rw [hd.2.1]; exact hk
  replace hW := hW.trans hd.toWd
  have q0 := hd.2.2.1
  refine aw_aload0 9 dX2_init_9 ?_
  refine aw_iload2 10 dX2_init_10 ?_
  refine fp_putF 11 dX2_init_11 ckF_RX2_13_2 ckQ_RX2_2_1 rfl hk rfl rfl (fun M hd => ?_)
  replace hk : M.2.1 a = (2, 3) := by rw [hd.2.1]; exact hk
  replace hW := hW.trans hd.toWd
  replace q0 : M.2.2 a 0 = .ref l := (hd.2.2.2 _ _ (by omega)).trans q0
  have q1 := hd.2.2.1
  refine aw_aload0 14 dX2_init_14 ?_
  refine aw_iload3 15 dX2_init_15 ?_
  refine fp_putF 16 dX2_init_16 ckF_RX2_17_2 ckQ_RX2_2_2 rfl hk rfl rfl (fun M hd => ?_)
  replace hk : M.2.1 a = (2, 3) := by rw [hd.2.1]; exact hk
  replace hW := hW.trans hd.toWd
  replace q0 : M.2.2 a 0 = .ref l := (hd.2.2.2 _ _ (by omega)).trans q0
  replace q1 : M.2.2 a 1 = .int h := (hd.2.2.2 _ _ (by omega)).trans q1
  have q2 := hd.2.2.1
  refine aw_vret 19 dX2_init_19 rfl (Nat.zero_le _) (Nat.zero_le _) ?_
  exact ⟨rfl, hW, q0, q1, q2⟩

def rmX7_init : Room := { frames := 1, cells := 0, slots := 0, locals := 20 }
set_option maxHeartbeats 4000000 in
set_option maxRecDepth 100000 in
theorem c7_X7_init {M0 : Mem} {a l : Nat} {h s : Int32} (hk : M0.2.1 a = (7, 3)) : AP mX7_init rmX7_init [.ref a, .ref l, .int h, .int s] M0 (none) (fun M => Wd a M0 M ∧ M.2.2 a 0 = .ref l ∧ M.2.2 a 1 = .int h ∧ M.2.2 a 2 = .int s) := by
  refine am_of rfl rfl (ls := [some (.ref a), some (.ref l), some (.int h), some (.int s)]) rfl ?_
  suffices HH : ∀ M, (M.2.1 a = (7, 3)) → (Wd a M0 M) → AW mX7_init rmX7_init (fun r' M' => r' = (none) ∧ (fun M => Wd a M0 M ∧ M.2.2 a 0 = .ref l ∧ M.2.2 a 1 = .int h ∧ M.2.2 a 2 = .int s) M') 0 [some (.ref a), some (.ref l), some (.int h), some (.int s)] [] M 0 0 from HH M0 hk (Wd.rf _ M0)
  intro M hk hW
  refine aw_aload0 0 dX7_init_0 ?_
  refine aw_objInit 1 dX7_init_1 ckO_RX7_3 (Nat.le_of_ble_eq_true rfl) (by decide) (by decide) ?_
  refine aw_aload0 4 dX7_init_4 ?_
  refine aw_aload1 5 dX7_init_5 ?_
  refine fp_putF 6 dX7_init_6 ckF_RX7_9_7 ckQ_RX7_7_0 rfl hk rfl rfl (fun M hd => ?_)
  replace hk : M.2.1 a = (7, 3) := by rw [hd.2.1]; exact hk
  replace hW := hW.trans hd.toWd
  have q0 := hd.2.2.1
  refine aw_aload0 9 dX7_init_9 ?_
  refine aw_iload2 10 dX7_init_10 ?_
  refine fp_putF 11 dX7_init_11 ckF_RX7_15_7 ckQ_RX7_7_1 rfl hk rfl rfl (fun M hd => ?_)
  replace hk : M.2.1 a = (7, 3) := by rw [hd.2.1]; exact hk
  replace hW := hW.trans hd.toWd
  replace q0 : M.2.2 a 0 = .ref l := (hd.2.2.2 _ _ (by omega)).trans q0
  have q1 := hd.2.2.1
  refine aw_aload0 14 dX7_init_14 ?_
  refine aw_iload3 15 dX7_init_15 ?_
  refine fp_putF 16 dX7_init_16 ckF_RX7_19_7 ckQ_RX7_7_2 rfl hk rfl rfl (fun M hd => ?_)
  replace hk : M.2.1 a = (7, 3) := by rw [hd.2.1]; exact hk
  replace hW := hW.trans hd.toWd
  replace q0 : M.2.2 a 0 = .ref l := (hd.2.2.2 _ _ (by omega)).trans q0
  replace q1 : M.2.2 a 1 = .int h := (hd.2.2.2 _ _ (by omega)).trans q1
  have q2 := hd.2.2.1
  refine aw_vret 19 dX7_init_19 rfl (Nat.zero_le _) (Nat.zero_le _) ?_
  exact ⟨rfl, hW, q0, q1, q2⟩

set_option maxHeartbeats 4000000 in
set_option maxRecDepth 100000 in
theorem c0_X7_init {M0 : Mem} {a l : Nat} {h s : Int32} (hk : M0.2.1 a = (0, 5)) : AP mX7_init rmX7_init [.ref a, .ref l, .int h, .int s] M0 (none) (fun M => Wd a M0 M ∧ M.2.2 a 0 = .ref l ∧ M.2.2 a 1 = .int h ∧ M.2.2 a 2 = .int s) := by
  refine am_of rfl rfl (ls := [some (.ref a), some (.ref l), some (.int h), some (.int s)]) rfl ?_
  suffices HH : ∀ M, (M.2.1 a = (0, 5)) → (Wd a M0 M) → AW mX7_init rmX7_init (fun r' M' => r' = (none) ∧ (fun M => Wd a M0 M ∧ M.2.2 a 0 = .ref l ∧ M.2.2 a 1 = .int h ∧ M.2.2 a 2 = .int s) M') 0 [some (.ref a), some (.ref l), some (.int h), some (.int s)] [] M 0 0 from HH M0 hk (Wd.rf _ M0)
  intro M hk hW
  refine aw_aload0 0 dX7_init_0 ?_
  refine aw_objInit 1 dX7_init_1 ckO_RX7_3 (Nat.le_of_ble_eq_true rfl) (by decide) (by decide) ?_
  refine aw_aload0 4 dX7_init_4 ?_
  refine aw_aload1 5 dX7_init_5 ?_
  refine fp_putF 6 dX7_init_6 ckF_RX7_9_0 ckQ_RX7_0_0 rfl hk rfl rfl (fun M hd => ?_)
  replace hk : M.2.1 a = (0, 5) := by rw [hd.2.1]; exact hk
  replace hW := hW.trans hd.toWd
  have q0 := hd.2.2.1
  refine aw_aload0 9 dX7_init_9 ?_
  refine aw_iload2 10 dX7_init_10 ?_
  refine fp_putF 11 dX7_init_11 ckF_RX7_15_0 ckQ_RX7_0_1 rfl hk rfl rfl (fun M hd => ?_)
  replace hk : M.2.1 a = (0, 5) := by rw [hd.2.1]; exact hk
  replace hW := hW.trans hd.toWd
  replace q0 : M.2.2 a 0 = .ref l := (hd.2.2.2 _ _ (by omega)).trans q0
  have q1 := hd.2.2.1
  refine aw_aload0 14 dX7_init_14 ?_
  refine aw_iload3 15 dX7_init_15 ?_
  refine fp_putF 16 dX7_init_16 ckF_RX7_19_0 ckQ_RX7_0_2 rfl hk rfl rfl (fun M hd => ?_)
  replace hk : M.2.1 a = (0, 5) := by rw [hd.2.1]; exact hk
  replace hW := hW.trans hd.toWd
  replace q0 : M.2.2 a 0 = .ref l := (hd.2.2.2 _ _ (by omega)).trans q0
  replace q1 : M.2.2 a 1 = .int h := (hd.2.2.2 _ _ (by omega)).trans q1
  have q2 := hd.2.2.1
  refine aw_vret 19 dX7_init_19 rfl (Nat.zero_le _) (Nat.zero_le _) ?_
  exact ⟨rfl, hW, q0, q1, q2⟩

set_option maxHeartbeats 4000000 in
set_option maxRecDepth 100000 in
theorem c6_X7_init {M0 : Mem} {a l : Nat} {h s : Int32} (hk : M0.2.1 a = (6, 5)) : AP mX7_init rmX7_init [.ref a, .ref l, .int h, .int s] M0 (none) (fun M => Wd a M0 M ∧ M.2.2 a 2 = .ref l ∧ M.2.2 a 3 = .int h ∧ M.2.2 a 4 = .int s) := by
  refine am_of rfl rfl (ls := [some (.ref a), some (.ref l), some (.int h), some (.int s)]) rfl ?_
  suffices HH : ∀ M, (M.2.1 a = (6, 5)) → (Wd a M0 M) → AW mX7_init rmX7_init (fun r' M' => r' = (none) ∧ (fun M => Wd a M0 M ∧ M.2.2 a 2 = .ref l ∧ M.2.2 a 3 = .int h ∧ M.2.2 a 4 = .int s) M') 0 [some (.ref a), some (.ref l), some (.int h), some (.int s)] [] M 0 0 from HH M0 hk (Wd.rf _ M0)
  intro M hk hW
  refine aw_aload0 0 dX7_init_0 ?_
  refine aw_objInit 1 dX7_init_1 ckO_RX7_3 (Nat.le_of_ble_eq_true rfl) (by decide) (by decide) ?_
  refine aw_aload0 4 dX7_init_4 ?_
  refine aw_aload1 5 dX7_init_5 ?_
  refine fp_putF 6 dX7_init_6 ckF_RX7_9_6 ckQ_RX7_6_2 rfl hk rfl rfl (fun M hd => ?_)
  replace hk : M.2.1 a = (6, 5) := by rw [hd.2.1]; exact hk
  replace hW := hW.trans hd.toWd
  have q2 := hd.2.2.1
  refine aw_aload0 9 dX7_init_9 ?_
  refine aw_iload2 10 dX7_init_10 ?_
  refine fp_putF 11 dX7_init_11 ckF_RX7_15_6 ckQ_RX7_6_3 rfl hk rfl rfl (fun M hd => ?_)
  replace hk : M.2.1 a = (6, 5) := by rw [hd.2.1]; exact hk
  replace hW := hW.trans hd.toWd
  replace q2 : M.2.2 a 2 = .ref l := (hd.2.2.2 _ _ (by omega)).trans q2
  have q3 := hd.2.2.1
  refine aw_aload0 14 dX7_init_14 ?_
  refine aw_iload3 15 dX7_init_15 ?_
  refine fp_putF 16 dX7_init_16 ckF_RX7_19_6 ckQ_RX7_6_4 rfl hk rfl rfl (fun M hd => ?_)
  replace hk : M.2.1 a = (6, 5) := by rw [hd.2.1]; exact hk
  replace hW := hW.trans hd.toWd
  replace q2 : M.2.2 a 2 = .ref l := (hd.2.2.2 _ _ (by omega)).trans q2
  replace q3 : M.2.2 a 3 = .int h := (hd.2.2.2 _ _ (by omega)).trans q3
  have q4 := hd.2.2.1
  refine aw_vret 19 dX7_init_19 rfl (Nat.zero_le _) (Nat.zero_le _) ?_
  exact ⟨rfl, hW, q2, q3, q4⟩

def rmX0_init : Room := { frames := 2, cells := 0, slots := 0, locals := 43 }
set_option maxHeartbeats 4000000 in
set_option maxRecDepth 100000 in
theorem c0_X0_init {M0 : Mem} {a l p c : Nat} {h s : Int32} (hk : M0.2.1 a = (0, 5)) : AP mX0_init rmX0_init [.ref a, .ref l, .int h, .int s, .ref p, .ref c] M0 (none) (fun M => Wd a M0 M ∧ M.2.2 a 0 = .ref l ∧ M.2.2 a 1 = .int h ∧ M.2.2 a 2 = .int s ∧ M.2.2 a 3 = .ref p ∧ M.2.2 a 4 = .ref c) := by
  refine am_of rfl rfl (ls := [some (.ref a), some (.ref l), some (.int h), some (.int s), some (.ref p), some (.ref c)]) rfl ?_
  suffices HH : ∀ M, (M.2.1 a = (0, 5)) → (Wd a M0 M) → AW mX0_init rmX0_init (fun r' M' => r' = (none) ∧ (fun M => Wd a M0 M ∧ M.2.2 a 0 = .ref l ∧ M.2.2 a 1 = .int h ∧ M.2.2 a 2 = .int s ∧ M.2.2 a 3 = .ref p ∧ M.2.2 a 4 = .ref c) M') 0 [some (.ref a), some (.ref l), some (.int h), some (.int s), some (.ref p), some (.ref c)] [] M 0 0 from HH M0 hk (Wd.rf _ M0)
  intro M hk hW
  refine aw_aload0 0 dX0_init_0 ?_
  refine aw_aload1 1 dX0_init_1 ?_
  refine aw_iload2 2 dX0_init_2 ?_
  refine aw_iload3 3 dX0_init_3 ?_
  refine ap_i 4 dX0_init_4 (c0_X7_init hk) ckI_RX0_3 cd_X7_init rfl rfl (Nat.le_of_ble_eq_true rfl) ⟨⟨by decide, by decide⟩, by decide, by decide⟩ (fun M hq => ?_)
  replace hk : M.2.1 a = (0, 5) := by rw [hq.1.2.1]; exact hk
  replace hW := hW.trans hq.1
  obtain ⟨-, q0, q1, q2⟩ := hq
  refine aw_aload0 7 dX0_init_7 ?_
  refine aw_aload4 8 dX0_init_8 ?_
  refine fp_putF 10 dX0_init_10 ckF_RX0_9_0 ckQ_RX0_0_3 rfl hk rfl rfl (fun M hd => ?_)
  replace hk : M.2.1 a = (0, 5) := by rw [hd.2.1]; exact hk
  replace hW := hW.trans hd.toWd
  replace q0 : M.2.2 a 0 = .ref l := (hd.2.2.2 _ _ (by omega)).trans q0
  replace q1 : M.2.2 a 1 = .int h := (hd.2.2.2 _ _ (by omega)).trans q1
  replace q2 : M.2.2 a 2 = .int s := (hd.2.2.2 _ _ (by omega)).trans q2
  have q3 := hd.2.2.1
  refine aw_aload0 13 dX0_init_13 ?_
  refine aw_aload5 14 dX0_init_14 ?_
  refine fp_putF 16 dX0_init_16 ckF_RX0_15_0 ckQ_RX0_0_4 rfl hk rfl rfl (fun M hd => ?_)
  replace hk : M.2.1 a = (0, 5) := by rw [hd.2.1]; exact hk
  replace hW := hW.trans hd.toWd
  replace q0 : M.2.2 a 0 = .ref l := (hd.2.2.2 _ _ (by omega)).trans q0
  replace q1 : M.2.2 a 1 = .int h := (hd.2.2.2 _ _ (by omega)).trans q1
  replace q2 : M.2.2 a 2 = .int s := (hd.2.2.2 _ _ (by omega)).trans q2
  replace q3 : M.2.2 a 3 = .ref p := (hd.2.2.2 _ _ (by omega)).trans q3
  have q4 := hd.2.2.1
  refine aw_vret 19 dX0_init_19 rfl (Nat.zero_le _) (Nat.zero_le _) ?_
  exact ⟨rfl, hW, q0, q1, q2, q3, q4⟩

set_option maxHeartbeats 4000000 in
set_option maxRecDepth 100000 in
theorem c6_X0_init {M0 : Mem} {a l p c : Nat} {h s : Int32} (hk : M0.2.1 a = (6, 5)) : AP mX0_init rmX0_init [.ref a, .ref l, .int h, .int s, .ref p, .ref c] M0 (none) (fun M => Wd a M0 M ∧ M.2.2 a 2 = .ref l ∧ M.2.2 a 3 = .int h ∧ M.2.2 a 4 = .int s ∧ M.2.2 a 0 = .ref p ∧ M.2.2 a 1 = .ref c) := by
  refine am_of rfl rfl (ls := [some (.ref a), some (.ref l), some (.int h), some (.int s), some (.ref p), some (.ref c)]) rfl ?_
  suffices HH : ∀ M, (M.2.1 a = (6, 5)) → (Wd a M0 M) → AW mX0_init rmX0_init (fun r' M' => r' = (none) ∧ (fun M => Wd a M0 M ∧ M.2.2 a 2 = .ref l ∧ M.2.2 a 3 = .int h ∧ M.2.2 a 4 = .int s ∧ M.2.2 a 0 = .ref p ∧ M.2.2 a 1 = .ref c) M') 0 [some (.ref a), some (.ref l), some (.int h), some (.int s), some (.ref p), some (.ref c)] [] M 0 0 from HH M0 hk (Wd.rf _ M0)
  intro M hk hW
  refine aw_aload0 0 dX0_init_0 ?_
  refine aw_aload1 1 dX0_init_1 ?_
  refine aw_iload2 2 dX0_init_2 ?_
  refine aw_iload3 3 dX0_init_3 ?_
  refine ap_i 4 dX0_init_4 (c6_X7_init hk) ckI_RX0_3 cd_X7_init rfl rfl (Nat.le_of_ble_eq_true rfl) ⟨⟨by decide, by decide⟩, by decide, by decide⟩ (fun M hq => ?_)
  replace hk : M.2.1 a = (6, 5) := by rw [hq.1.2.1]; exact hk
  replace hW := hW.trans hq.1
  obtain ⟨-, q0, q1, q2⟩ := hq
  refine aw_aload0 7 dX0_init_7 ?_
  refine aw_aload4 8 dX0_init_8 ?_
  refine fp_putF 10 dX0_init_10 ckF_RX0_9_6 ckQ_RX0_6_0 rfl hk rfl rfl (fun M hd => ?_)
  replace hk : M.2.1 a = (6, 5) := by rw [hd.2.1]; exact hk
  replace hW := hW.trans hd.toWd
  replace q0 : M.2.2 a 2 = .ref l := (hd.2.2.2 _ _ (by omega)).trans q0
  replace q1 : M.2.2 a 3 = .int h := (hd.2.2.2 _ _ (by omega)).trans q1
  replace q2 : M.2.2 a 4 = .int s := (hd.2.2.2 _ _ (by omega)).trans q2
  have q3 := hd.2.2.1
  refine aw_aload0 13 dX0_init_13 ?_
  refine aw_aload5 14 dX0_init_14 ?_
  refine fp_putF 16 dX0_init_16 ckF_RX0_15_6 ckQ_RX0_6_1 rfl hk rfl rfl (fun M hd => ?_)
  replace hk : M.2.1 a = (6, 5) := by rw [hd.2.1]; exact hk
  replace hW := hW.trans hd.toWd
  replace q0 : M.2.2 a 2 = .ref l := (hd.2.2.2 _ _ (by omega)).trans q0
  replace q1 : M.2.2 a 3 = .int h := (hd.2.2.2 _ _ (by omega)).trans q1
  replace q2 : M.2.2 a 4 = .int s := (hd.2.2.2 _ _ (by omega)).trans q2
  replace q3 : M.2.2 a 0 = .ref p := (hd.2.2.2 _ _ (by omega)).trans q3
  have q4 := hd.2.2.1
  refine aw_vret 19 dX0_init_19 rfl (Nat.zero_le _) (Nat.zero_le _) ?_
  exact ⟨rfl, hW, q0, q1, q2, q3, q4⟩

def rmX6_init : Room := { frames := 3, cells := 0, slots := 0, locals := 68 }
set_option maxHeartbeats 4000000 in
set_option maxRecDepth 100000 in
theorem c_X6_init {M0 : Mem} {a l p : Nat} {h s : Int32} (hk : M0.2.1 a = (6, 5)) : AP mX6_init rmX6_init [.ref a, .ref l, .int h, .int s, .ref p] M0 (none) (fun M => Wd a M0 M ∧ M.2.2 a 2 = .ref l ∧ M.2.2 a 3 = .int h ∧ M.2.2 a 4 = .int s ∧ M.2.2 a 0 = .ref p ∧ M.2.2 a 1 = .ref 1) := by
  refine am_of rfl rfl (ls := [some (.ref a), some (.ref l), some (.int h), some (.int s), some (.ref p)]) rfl ?_
  suffices HH : ∀ M, (M.2.1 a = (6, 5)) → (M = M0) → AW mX6_init rmX6_init (fun r' M' => r' = (none) ∧ (fun M => Wd a M0 M ∧ M.2.2 a 2 = .ref l ∧ M.2.2 a 3 = .int h ∧ M.2.2 a 4 = .int s ∧ M.2.2 a 0 = .ref p ∧ M.2.2 a 1 = .ref 1) M') 0 [some (.ref a), some (.ref l), some (.int h), some (.int s), some (.ref p)] [] M 0 0 from HH M0 hk rfl
  intro M hk hM
  subst hM
  refine aw_aload0 0 dX6_init_0 ?_
  refine aw_aload1 1 dX6_init_1 ?_
  refine aw_iload2 2 dX6_init_2 ?_
  refine aw_iload3 3 dX6_init_3 ?_
  refine aw_aload4 4 dX6_init_4 ?_
  refine aw_gets 6 dX6_init_6 (by decide) ?_
  refine ap_i 9 dX6_init_9 (c6_X0_init hk) ckI_RX6_7 cd_X0_init rfl rfl (Nat.le_of_ble_eq_true rfl) ⟨⟨by decide, by decide⟩, by decide, by decide⟩ (fun M hq => ?_)
  refine aw_vret 12 dX6_init_12 rfl (Nat.zero_le _) (Nat.zero_le _) ?_
  exact ⟨rfl, hq⟩

def rmX3_init : Room := { frames := 1, cells := 1, slots := 16, locals := 23 }
set_option maxHeartbeats 4000000 in
set_option maxRecDepth 100000 in
theorem c_X3_init {M0 : Mem} {a : Nat} {n : Int32} (hm : M0.1 = a + 1) (hk : M0.2.1 a = (3, 5)) (q2 : M0.2.2 a 2 = .int 0) (q3 : M0.2.2 a 3 = .int 0) (q4 : M0.2.2 a 4 = .null) (ha : 2 ≤ a) : AP mX3_init rmX3_init [.ref a, .int n] M0 (none) (fun M => M.1 = a + 2 ∧ Fa a M0 M ∧ PV M a n 0 0 (fun _ => -1) .null) := by
  refine am_of rfl rfl (ls := [some (.ref a), some (.int n)]) rfl ?_
  suffices HH : ∀ M, (M.1 = a + 1) → (M.2.1 a = (3, 5)) → (M.2.2 a 2 = .int 0) → (M.2.2 a 3 = .int 0) → (M.2.2 a 4 = .null) → (Fa a M0 M) → AW mX3_init rmX3_init (fun r' M' => r' = (none) ∧ (fun M => M.1 = a + 2 ∧ Fa a M0 M ∧ PV M a n 0 0 (fun _ => -1) .null) M') 0 [some (.ref a), some (.int n)] [] M 0 0 from HH M0 hm hk q2 q3 q4 (Fa.rf _ _)
  intro M hm hk q2 q3 q4 hF
  refine aw_aload0 0 dX3_init_0 ?_
  refine aw_objInit 1 dX3_init_1 ckO_RX3_3 (Nat.le_of_ble_eq_true rfl) (by decide) (by decide) ?_
  refine aw_aload0 4 dX3_init_4 ?_
  refine aw_bipush 5 16 dX3_init_5 (by decide) ?_
  refine na_new 7 (16) (a + 1) dX3_init_7 rfl (by decide) hm (by decide) (by decide) (fun M hd => ?_)
  have hA := hd.2.1
  replace hk : M.2.1 a = (3, 5) := (hd.2.2.2 a (by omega)).1.trans hk
  replace hF := hF.nw hd (by omega)
  replace hm : M.1 = a + 2 := hd.1
  have hz := (hd.2.2.2 a (by omega)).2
  replace q2 : M.2.2 a 2 = .int 0 := by rw [hz]; exact q2
  replace q3 : M.2.2 a 3 = .int 0 := by rw [hz]; exact q3
  replace q4 : M.2.2 a 4 = .null := by rw [hz]; exact q4
  clear hz hd
  refine fp_putF 9 dX3_init_9 ckF_RX3_9_3 ckQ_RX3_3_1 rfl hk rfl rfl (fun M hd => ?_)
  replace hm : M.1 = a + 2 := hd.1.trans hm
  replace hA : M.2.1 (a + 1) = (20, 16) := by rw [hd.2.1]; exact hA
  replace hk : M.2.1 a = (3, 5) := by rw [hd.2.1]; exact hk
  replace hF := hF.wd hd.toWd (by omega)
  replace q2 : M.2.2 a 2 = .int 0 := (hd.2.2.2 _ _ (by omega)).trans q2
  replace q3 : M.2.2 a 3 = .int 0 := (hd.2.2.2 _ _ (by omega)).trans q3
  replace q4 : M.2.2 a 4 = .null := (hd.2.2.2 _ _ (by omega)).trans q4
  have q1 := hd.2.2.1
  clear hd
  refine aw_aload0 12 dX3_init_12 ?_
  refine aw_iload1 13 dX3_init_13 ?_
  refine fp_putF 14 dX3_init_14 ckF_RX3_15_3 ckQ_RX3_3_0 rfl hk rfl rfl (fun M hd => ?_)
  replace hm : M.1 = a + 2 := hd.1.trans hm
  replace hA : M.2.1 (a + 1) = (20, 16) := by rw [hd.2.1]; exact hA
  replace hk : M.2.1 a = (3, 5) := by rw [hd.2.1]; exact hk
  replace hF := hF.wd hd.toWd (by omega)
  replace q2 : M.2.2 a 2 = .int 0 := (hd.2.2.2 _ _ (by omega)).trans q2
  replace q3 : M.2.2 a 3 = .int 0 := (hd.2.2.2 _ _ (by omega)).trans q3
  replace q4 : M.2.2 a 4 = .null := (hd.2.2.2 _ _ (by omega)).trans q4
  replace q1 : M.2.2 a 1 = .ref (a + 1) := (hd.2.2.2 _ _ (by omega)).trans q1
  have q0 := hd.2.2.1
  clear hd
  refine aw_aload0 17 dX3_init_17 ?_
  refine aw_get 18 dX3_init_18 ckF_RX3_9_3 hk q1 ?_
  refine aw_icm1 21 dX3_init_21 ?_
  refine ap_s0 22 dX3_init_22 (c_J7_fill_53178 hA (by omega) (by decide)) ckS_RX3_19 cd_J7_fill_53178 rfl (Nat.le_of_ble_eq_true rfl) ⟨⟨by decide, by decide⟩, by decide, by decide⟩ rfl (fun M hq => ?_)
  refine aw_vret 25 dX3_init_25 rfl (by decide) (by decide) ?_
  have e := hq.1.2.2 a (by omega)
  exact ⟨rfl, hq.1.1.trans hm, hF.wd hq.1 (by omega), by rw [hq.1.2.1]; exact hk, by rw [e]; exact q0, by rw [e]; exact q1, by rw [e]; exact q2, by rw [e]; exact q3, by rw [e]; exact q4, hq.2⟩

/-- the tree -/
def TRE (M : Mem) : Prop := M.2.1 7 = (9, 1) ∧ M.2.2 7 0 = .ref 8 ∧ M.2.1 8 = (20, 32)
theorem TRE.wd {M M' : Mem} (h : TRE M) (f : Wd 8 M M') : TRE M' := ⟨by rw [f.2.1]; exact h.1, by rw [f.2.2 7 (by decide)]; exact h.2.1, by rw [f.2.1]; exact h.2.2⟩
def NOD (M : Mem) (lo : Nat) (lf : Nat → Int32) : Prop := ∀ k, lo ≤ k → k < 32 → M.2.2 8 k = .int (TN lf k)

def rmX9_rootOf : Room := { frames := 1, cells := 0, slots := 0, locals := 21 }
set_option maxHeartbeats 4000000 in
set_option maxRecDepth 100000 in
theorem c_X9_rootOf {M0 : Mem} {a : Nat} {n w h : Int32} {g : Nat → Int32} {q : Value} (hP : PV M0 a n w h g q) (hT : TRE M0) (ha : a ≠ 8 ∧ a + 1 ≠ 8) : AP mX9_rootOf rmX9_rootOf [.ref 7, .ref a] M0 (some (.int (TN (fun k => g k + 1) 1))) (fun M => Wd 8 M0 M ∧ NOD M 1 (fun k => g k + 1)) := by
  refine am_of rfl rfl (ls := [some (.ref 7), some (.ref a), none]) rfl ?_
  suffices HH : ∀ M, (PV M a n w h g q) → (TRE M) → (Wd 8 M0 M) → AW mX9_rootOf rmX9_rootOf (fun r' M' => r' = (some (.int (TN (fun k => g k + 1) 1))) ∧ (fun M => Wd 8 M0 M ∧ NOD M 1 (fun k => g k + 1)) M') 0 [some (.ref 7), some (.ref a), none] [] M 0 0 from HH M0 hP hT (Wd.rf _ M0)
  intro M hP hT hW
  refine aw_ic0 0 dX9_rootOf_0 ?_
  refine aw_istore2 1 dX9_rootOf_1 rfl ?_
  have LP2 : ∀ (dd : Nat) (k : Nat) (M : Mem), 16 - k = dd → (k ≤ 16) → (PV M a n w h g q) → (TRE M) → (Wd 8 M0 M) → (∀ j, 16 ≤ j → j < 16 + k → M.2.2 8 j = .int (TN (fun k => g k + 1) j)) → AW mX9_rootOf rmX9_rootOf (fun r' M' => r' = (some (.int (TN (fun k => g k + 1) 1))) ∧ (fun M => Wd 8 M0 M ∧ NOD M 1 (fun k => g k + 1)) M') 2 [some (.ref 7), some (.ref a), some (.int (nI k))] [] M 0 0 := by
    intro dd
    induction dd using Nat.strongRecOn with
    | _ dd ih2 =>
      intro k M hdd hk hP hT hW hN
      refine aw_iload2 2 dX9_rootOf_2 ?_
      refine aw_bipush 3 16 dX9_rootOf_3 (by decide) ?_
      refine aw_icmp_geN 5 31 (k) (16) dX9_rootOf_5 (by decide) rfl rfl (by omega) (by omega) (fun h5 => ?_) (fun h5 => ?_)
      · have he : k = 16 := by omega
        subst he
        refine aw_bipush 31 15 dX9_rootOf_31 (by decide) ?_
        refine aw_istore2 33 dX9_rootOf_33 rfl ?_
        have LP34 : ∀ (dd : Nat) (k : Nat) (M : Mem), k = dd → (k ≤ 15) → (TRE M) → (Wd 8 M0 M) → (NOD M (k + 1) (fun k => g k + 1)) → AW mX9_rootOf rmX9_rootOf (fun r' M' => r' = (some (.int (TN (fun k => g k + 1) 1))) ∧ (fun M => Wd 8 M0 M ∧ NOD M 1 (fun k => g k + 1)) M') 34 [some (.ref 7), some (.ref a), some (.int (nI k))] [] M 0 0 := by
          intro dd
          induction dd using Nat.strongRecOn with
          | _ dd ih34 =>
            intro k M hdd hk hT hW hN
            refine aw_iload2 34 dX9_rootOf_34 ?_
            refine aw_ic1 35 dX9_rootOf_35 ?_
            refine aw_icmp_ltN 36 72 (k) (1) dX9_rootOf_36 (by decide) rfl rfl (by omega) (by omega) (fun h36 => ?_) (fun h36 => ?_)
            · have he : k = 0 := by omega
              subst he
              refine aw_aload0 72 dX9_rootOf_72 ?_
              refine aw_get 73 dX9_rootOf_73 ckF_RX9_9_9 hT.1 hT.2.1 ?_
              refine aw_ic1 76 dX9_rootOf_76 ?_
              refine aw_iald 77 (1) dX9_rootOf_77 hT.2.2 rfl (by omega) (by decide) (hN 1 (by omega) (by omega)) ?_
              refine aw_iret 78 dX9_rootOf_78 rfl (Nat.zero_le _) (Nat.zero_le _) ?_
              exact ⟨rfl, hW, hN⟩
            · refine aw_aload0 39 dX9_rootOf_39 ?_
              refine aw_get 40 dX9_rootOf_40 ckF_RX9_9_9 hT.1 hT.2.1 ?_
              refine aw_iload2 43 dX9_rootOf_43 ?_
              refine aw_aload0 44 dX9_rootOf_44 ?_
              refine aw_get 45 dX9_rootOf_45 ckF_RX9_9_9 hT.1 hT.2.1 ?_
              refine aw_ic2 48 dX9_rootOf_48 ?_
              refine aw_iload2 49 dX9_rootOf_49 ?_
              refine aw_imulN 50 (2) (k) dX9_rootOf_50 rfl rfl ?_
              refine aw_iald 51 (2 * k) dX9_rootOf_51 hT.2.2 rfl (by omega) (by decide) (hN (2 * k) (by omega) (by omega)) ?_
              refine aw_aload0 52 dX9_rootOf_52 ?_
              refine aw_get 53 dX9_rootOf_53 ckF_RX9_9_9 hT.1 hT.2.1 ?_
              refine aw_ic2 56 dX9_rootOf_56 ?_
              refine aw_iload2 57 dX9_rootOf_57 ?_
              refine aw_imulN 58 (2) (k) dX9_rootOf_58 rfl rfl ?_
              refine aw_ic1 59 dX9_rootOf_59 ?_
              refine aw_iaddN 60 (2 * k) (1) dX9_rootOf_60 rfl rfl ?_
              refine aw_iald 61 (2 * k + 1) dX9_rootOf_61 hT.2.2 rfl (by omega) (by decide) (hN (2 * k + 1) (by omega) (by omega)) ?_
              refine cr_s1 62 dX9_rootOf_62 (cr_sd c_X9_above) ckS_RX9_20 cd_X9_above rfl (Nat.le_of_ble_eq_true rfl) ⟨⟨by decide, by decide⟩, by decide, by decide⟩ rfl ?_
              refine ax_st 65 (k) dX9_rootOf_65 hT.2.2 (by decide) rfl (show k < 32 by omega) (by decide) (fun M hd => ?_)
              refine aw_iinc2 66 (nI (k - 1)) dX9_rootOf_66 (sb_m1 (by omega)) rfl ?_
              refine aw_goto 69 34 dX9_rootOf_69 (by decide) ?_
              exact ih34 _ (by omega) (k - 1) M rfl (by omega) (hT.wd hd.toWd) (hW.trans hd.toWd) (fun j h1 h2 => by
                by_cases e : j = k
                · subst e; rw [hd.2.2.1, TN_lo _ (k := j) (by omega) (by omega)]
                · rw [hd.2.2.2 _ _ (by omega)]; exact hN j (by omega) h2)
        exact LP34 _ 15 M rfl (by omega) hT hW hN
      · refine aw_aload0 8 dX9_rootOf_8 ?_
        refine aw_get 9 dX9_rootOf_9 ckF_RX9_9_9 hT.1 hT.2.1 ?_
        refine aw_bipush 12 16 dX9_rootOf_12 (by decide) ?_
        refine aw_iload2 14 dX9_rootOf_14 ?_
        refine aw_iaddN 15 (16) (k) dX9_rootOf_15 rfl rfl ?_
        refine aw_aload1 16 dX9_rootOf_16 ?_
        refine aw_get 17 dX9_rootOf_17 ckF_RX9_15_3 hP.1 hP.2.2.1 ?_
        refine aw_iload2 20 dX9_rootOf_20 ?_
        refine ar_ld 21 (k) dX9_rootOf_21 hP.2.2.2.2.2.2 rfl (show k < 16 by omega) (by decide) ?_
        refine aw_ic1 22 dX9_rootOf_22 ?_
        refine aw_iadd 23 dX9_rootOf_23 ?_
        refine ax_st 24 (16 + k) dX9_rootOf_24 hT.2.2 (by decide) rfl (show 16 + k < 32 by omega) (by decide) (fun M hd => ?_)
        refine aw_iinc2 25 (nI (k + 1)) dX9_rootOf_25 (nI_1 _) rfl ?_
        refine aw_goto 28 2 dX9_rootOf_28 (by decide) ?_
        exact ih2 _ (by omega) (k + 1) M rfl (by omega) (hP.frs (hd.toWd.toFrS (S := fun b => b = 8) rfl) ha.1 ha.2) (hT.wd hd.toWd) (hW.trans hd.toWd) (fun j h1 h2 => by
          by_cases e : j = 16 + k
          · subst e; rw [hd.2.2.1, TN_hi _ (by omega), show 16 + k - 16 = k by omega]
          · rw [hd.2.2.2 _ _ (by omega)]; exact hN j h1 (by omega))
  exact LP2 _ 0 M rfl (by omega) hP hT hW (fun j h1 h2 => absurd h2 (by omega))

theorem sib : ∀ {j k : Nat}, j < 16 → k < 4 → ((nI (16 + j)) >>> (nI k &&& 31)) ^^^ 1 = nI (((16 + j) / 2 ^ k) ^^^ 1) ∧ 1 ≤ ((16 + j) / 2 ^ k) ^^^ 1 ∧ ((16 + j) / 2 ^ k) ^^^ 1 < 32 := by
  intro j k hj hk
  have h : ∀ j : Fin 16, ∀ k : Fin 4, ((nI (16 + j.val)) >>> (nI k.val &&& 31)) ^^^ 1 = nI (((16 + j.val) / 2 ^ k.val) ^^^ 1) ∧ 1 ≤ ((16 + j.val) / 2 ^ k.val) ^^^ 1 ∧ ((16 + j.val) / 2 ^ k.val) ^^^ 1 < 32 := by decide +kernel
  exact h ⟨j, hj⟩ ⟨k, hk⟩

def rmX9_beside : Room := { frames := 0, cells := 0, slots := 0, locals := 0 }
set_option maxHeartbeats 4000000 in
set_option maxRecDepth 100000 in
theorem c_X9_beside {M : Mem} {j k : Nat} {lf : Nat → Int32} (hT : TRE M) (hN : NOD M 1 lf) (hj : j < 16) (hk : k < 4) : CR mX9_beside rmX9_beside [.ref 7, .int (nI j), .int (nI k)] M (some (.int (TN lf (((16 + j) / 2 ^ k) ^^^ 1)))) := by
  refine am_of rfl rfl (ls := [some (.ref 7), some (.int (nI j)), some (.int (nI k))]) rfl ?_
  refine aw_aload0 0 dX9_beside_0 ?_
  refine aw_get 1 dX9_beside_1 ckF_RX9_9_9 hT.1 hT.2.1 ?_
  refine aw_bipush 4 16 dX9_beside_4 (by decide) ?_
  refine aw_iload1 6 dX9_beside_6 ?_
  refine aw_iaddN 7 (16) (j) dX9_beside_7 rfl rfl ?_
  refine aw_iload2 8 dX9_beside_8 ?_
  refine aw_ishr 9 dX9_beside_9 ?_
  refine aw_ic1 10 dX9_beside_10 ?_
  refine aw_ixor 11 dX9_beside_11 ?_
  refine aw_iald 12 (((16 + j) / 2 ^ k) ^^^ 1) dX9_beside_12 hT.2.2 (sib hj hk).1 (sib hj hk).2.2 (by decide) (hN _ (sib hj hk).2.1 (sib hj hk).2.2) ?_
  refine aw_iret 13 dX9_beside_13 rfl (Nat.zero_le _) (Nat.zero_le _) ?_
  exact ⟨rfl, rfl⟩

