/-! the constructors (gen/ctor.py) -/
theorem PV.fa {A a : Nat} {M M' : Mem} {n w h : Int32} {g : Nat → Int32} {q : Value} (p : PV M a n w h g q) (f : Fa A M M') (ha : a + 1 < A) : PV M' a n w h g q := by
  have e := f a (by omega)
  have e2 := f (a + 1) ha
  unfold PV AR
  rw [e.1, e.2, e2.1, e2.2]
  exact p
theorem SV.fa {A s : Nat} {M M' : Mem} {hr lane len : Int32} {c : Nat → Int32} (p : SV M s hr lane len c) (f : Fa A M M') (ha : s + 1 < A) : SV M' s hr lane len c := by
  have e := f s (by omega)
  have e2 := f (s + 1) ha
  unfold SV AR
  rw [e.1, e.2, e2.1, e2.2]
  exact p
theorem Fa.trans {A B : Nat} {M M1 M2 : Mem} (h : Fa A M M1) (g : Fa B M1 M2) (hAB : A ≤ B) : Fa A M M2 := fun b hb => ⟨((g b (by omega)).1).trans (h b hb).1, ((g b (by omega)).2).trans (h b hb).2⟩

def rmX9_init : Room := { frames := 1, cells := 1, slots := 32, locals := 20 }
set_option maxHeartbeats 4000000 in
set_option maxRecDepth 100000 in
theorem c_X9_init {M0 : Mem} {a : Nat} (hm : M0.1 = a + 1) (hk : M0.2.1 a = (9, 1)) : AP mX9_init rmX9_init [.ref a] M0 (none) (fun M => M.1 = a + 2 ∧ Fa a M0 M ∧ M.2.1 a = (9, 1) ∧ M.2.2 a 0 = .ref (a + 1) ∧ M.2.1 (a + 1) = (20, 32)) := by
  refine am_of rfl rfl (ls := [some (.ref a)]) rfl ?_
  suffices HH : ∀ M, (M.1 = a + 1) → (Fa a M0 M) → (M.2.1 a = (9, 1)) → AW mX9_init rmX9_init (fun r' M' => r' = (none) ∧ (fun M => M.1 = a + 2 ∧ Fa a M0 M ∧ M.2.1 a = (9, 1) ∧ M.2.2 a 0 = .ref (a + 1) ∧ M.2.1 (a + 1) = (20, 32)) M') 0 [some (.ref a)] [] M 0 0 from HH M0 hm (Fa.rf _ _) hk
  intro M hm hF hk
  refine aw_aload0 0 dX9_init_0 ?_
  refine aw_objInit 1 dX9_init_1 ckO_RX9_3 (Nat.le_of_ble_eq_true rfl) (by decide) (by decide) ?_
  refine aw_aload0 4 dX9_init_4 ?_
  refine aw_bipush 5 32 dX9_init_5 (by decide) ?_
  refine na_new 7 (32) (a + 1) dX9_init_7 rfl (by decide) hm (by decide) (by decide) (fun M hd => ?_)
  replace hF := hF.nw hd (by omega)
  replace hk := ((hd.2.2.2 a (by omega)).1).trans hk
  have k1 := hd.2.1
  have m1 := hd.1
  clear hd
  refine fp_putF 9 dX9_init_9 ckF_RX9_9_9 ckQ_RX9_9_0 rfl hk rfl rfl (fun M hd => ?_)
  replace hF := hF.wd hd.toWd (by omega)
  replace hk := (congrFun hd.2.1 a).trans hk
  replace k1 := (congrFun hd.2.1 (a + 1)).trans k1
  replace m1 := hd.1.trans m1
  refine aw_vret 12 dX9_init_12 rfl (by decide) (by decide) ?_
  exact ⟨rfl, m1, hF, hk, hd.2.2.1, k1⟩

def rmX4_init : Room := { frames := 1, cells := 2, slots := 65, locals := 20 }
set_option maxHeartbeats 4000000 in
set_option maxRecDepth 100000 in
theorem c_X4_init {M0 : Mem} {a : Nat} (hm : M0.1 = a + 1) (hk : M0.2.1 a = (4, 6)) : AP mX4_init rmX4_init [.ref a] M0 (none) (fun M => M.1 = a + 3 ∧ Fa a M0 M ∧ M.2.1 a = (4, 6) ∧ M.2.2 a 0 = .ref (a + 1) ∧ M.2.2 a 2 = .ref (a + 2) ∧ M.2.1 (a + 1) = (20, 5) ∧ M.2.1 (a + 2) = (20, 60)) := by
  refine am_of rfl rfl (ls := [some (.ref a)]) rfl ?_
  suffices HH : ∀ M, (M.1 = a + 1) → (Fa a M0 M) → (M.2.1 a = (4, 6)) → AW mX4_init rmX4_init (fun r' M' => r' = (none) ∧ (fun M => M.1 = a + 3 ∧ Fa a M0 M ∧ M.2.1 a = (4, 6) ∧ M.2.2 a 0 = .ref (a + 1) ∧ M.2.2 a 2 = .ref (a + 2) ∧ M.2.1 (a + 1) = (20, 5) ∧ M.2.1 (a + 2) = (20, 60)) M') 0 [some (.ref a)] [] M 0 0 from HH M0 hm (Fa.rf _ _) hk
  intro M hm hF hk
  refine aw_aload0 0 dX4_init_0 ?_
  refine aw_objInit 1 dX4_init_1 ckO_RX4_3 (Nat.le_of_ble_eq_true rfl) (by decide) (by decide) ?_
  refine aw_aload0 4 dX4_init_4 ?_
  refine aw_ic5 5 dX4_init_5 ?_
  refine na_new 6 (5) (a + 1) dX4_init_6 rfl (by decide) hm (by decide) (by decide) (fun M hd => ?_)
  replace hF := hF.nw hd (by omega)
  replace hk := ((hd.2.2.2 a (by omega)).1).trans hk
  have k1 := hd.2.1
  have m1 := hd.1
  clear hd
  refine fp_putF 8 dX4_init_8 ckF_RX4_9_4 ckQ_RX4_4_0 rfl hk rfl rfl (fun M hd => ?_)
  replace hF := hF.wd hd.toWd (by omega)
  replace hk := (congrFun hd.2.1 a).trans hk
  replace k1 := (congrFun hd.2.1 (a + 1)).trans k1
  replace m1 := hd.1.trans m1
  have f0 := hd.2.2.1
  clear hd
  refine aw_aload0 11 dX4_init_11 ?_
  refine aw_bipush 12 60 dX4_init_12 (by decide) ?_
  refine na_new 14 (60) (a + 2) dX4_init_14 rfl (by decide) m1 (by decide) (by decide) (fun M hd => ?_)
  replace hF := hF.nw hd (by omega)
  replace hk := ((hd.2.2.2 a (by omega)).1).trans hk
  replace k1 := ((hd.2.2.2 (a + 1) (by omega)).1).trans k1
  replace f0 := (congrFun (hd.2.2.2 a (by omega)).2 0).trans f0
  have k2 := hd.2.1
  replace m1 := hd.1
  clear hd
  refine fp_putF 16 dX4_init_16 ckF_RX4_15_4 ckQ_RX4_4_2 rfl hk rfl rfl (fun M hd => ?_)
  replace hF := hF.wd hd.toWd (by omega)
  replace hk := (congrFun hd.2.1 a).trans hk
  replace k1 := (congrFun hd.2.1 (a + 1)).trans k1
  replace k2 := (congrFun hd.2.1 (a + 2)).trans k2
  replace f0 := (hd.2.2.2 a 0 (by omega)).trans f0
  replace m1 := hd.1.trans m1
  refine aw_vret 19 dX4_init_19 rfl (by decide) (by decide) ?_
  exact ⟨rfl, m1, hF, hk, f0, hd.2.2.1, k1, k2⟩

def rmX10_init : Room := { frames := 2, cells := 3, slots := 37, locals := 44 }
set_option maxHeartbeats 4000000 in
set_option maxRecDepth 100000 in
theorem c_X10_init {M0 : Mem} {a : Nat} (hm : M0.1 = a + 1) (hk : M0.2.1 a = (10, 2)) (ha : 2 ≤ a) : AP mX10_init rmX10_init [.ref a] M0 (none) (fun M => M.1 = a + 4 ∧ Fa a M0 M ∧ M.2.1 a = (10, 2) ∧ M.2.2 a 0 = .ref (a + 1) ∧ M.2.2 a 1 = .ref (a + 3) ∧ M.2.1 (a + 3) = (20, 16) ∧ PV M (a + 1) (-9) 0 0 (fun _ => -1) .null) := by
  refine am_of rfl rfl (ls := [some (.ref a)]) rfl ?_
  suffices HH : ∀ M, (M.1 = a + 1) → (Fa a M0 M) → (M.2.1 a = (10, 2)) → AW mX10_init rmX10_init (fun r' M' => r' = (none) ∧ (fun M => M.1 = a + 4 ∧ Fa a M0 M ∧ M.2.1 a = (10, 2) ∧ M.2.2 a 0 = .ref (a + 1) ∧ M.2.2 a 1 = .ref (a + 3) ∧ M.2.1 (a + 3) = (20, 16) ∧ PV M (a + 1) (-9) 0 0 (fun _ => -1) .null) M') 0 [some (.ref a)] [] M 0 0 from HH M0 hm (Fa.rf _ _) hk
  intro M hm hF hk
  refine aw_aload0 0 dX10_init_0 ?_
  refine aw_objInit 1 dX10_init_1 ckO_RX10_3 (Nat.le_of_ble_eq_true rfl) (by decide) (by decide) ?_
  refine aw_aload0 4 dX10_init_4 ?_
  refine na_obj 5 5 (a + 1) dX10_init_5 ckN_RX10_9 rfl hm (by decide) (by decide) (fun M hd => ?_)
  replace hF := hF.nw hd (by omega)
  replace hk := ((hd.2.2.2 a (by omega)).1).trans hk
  have k1 := hd.2.1
  have m1 := hd.1
  have q2 : M.2.2 (a + 1) 2 = .int 0 := by rw [hd.2.2.1]; rfl
  have q3 : M.2.2 (a + 1) 3 = .int 0 := by rw [hd.2.2.1]; rfl
  have q4 : M.2.2 (a + 1) 4 = .null := by rw [hd.2.2.1]; rfl
  clear hd
  refine aw_dup 8 dX10_init_8 rfl ?_
  refine aw_bipush 9 (-9) dX10_init_9 (by decide) ?_
  refine ap_i 11 dX10_init_11 (c_X3_init m1 k1 q2 q3 q4 (by omega)) ckI_RX10_11 cd_X3_init rfl rfl (Nat.le_of_ble_eq_true rfl) ⟨⟨by decide, by decide⟩, by decide, by decide⟩ (fun M hq => ?_)
  replace hF := hF.trans hq.2.1 (by omega)
  replace hk := ((hq.2.1 a (by omega)).1).trans hk
  have hP := hq.2.2
  replace m1 := hq.1
  clear hq q2 q3 q4 k1
  refine fp_putF 14 dX10_init_14 ckF_RX10_14_10 ckQ_RX10_10_0 rfl hk rfl rfl (fun M hd => ?_)
  replace hF := hF.wd hd.toWd (by omega)
  replace hk := (congrFun hd.2.1 a).trans hk
  replace hP := hP.frs (S := fun b => b = a) (hd.toWd.toFrS rfl) (by omega) (by omega)
  replace m1 := hd.1.trans m1
  have f0 := hd.2.2.1
  clear hd
  refine aw_aload0 17 dX10_init_17 ?_
  refine aw_bipush 18 16 dX10_init_18 (by decide) ?_
  refine na_new 20 (16) (a + 3) dX10_init_20 rfl (by decide) m1 (by decide) (by decide) (fun M hd => ?_)
  replace hF := hF.nw hd (by omega)
  replace hk := ((hd.2.2.2 a (by omega)).1).trans hk
  replace hP := hP.kp (hd.kp (S := fun _ => False) m1) (by omega) (fun q => q) (fun q => q)
  replace f0 := (congrFun (hd.2.2.2 a (by omega)).2 0).trans f0
  have k2 := hd.2.1
  replace m1 := hd.1
  clear hd
  refine fp_putF 22 dX10_init_22 ckF_RX10_20_10 ckQ_RX10_10_1 rfl hk rfl rfl (fun M hd => ?_)
  replace hF := hF.wd hd.toWd (by omega)
  replace hk := (congrFun hd.2.1 a).trans hk
  replace hP := hP.frs (S := fun b => b = a) (hd.toWd.toFrS rfl) (by omega) (by omega)
  replace k2 := (congrFun hd.2.1 (a + 3)).trans k2
  replace f0 := (hd.2.2.2 a 0 (by omega)).trans f0
  replace m1 := hd.1.trans m1
  refine aw_vret 25 dX10_init_25 rfl (by decide) (by decide) ?_
  exact ⟨rfl, m1, hF, hk, f0, hd.2.2.1, k2, hP⟩

def rmX8_init : Room := { frames := 1, cells := 0, slots := 0, locals := 20 }
set_option maxHeartbeats 4000000 in
set_option maxRecDepth 100000 in
theorem c_X8_init {M0 : Mem} {a : Nat} : AP mX8_init rmX8_init [.ref a] M0 (none) (fun M => M = M0) := by
  refine am_of rfl rfl (ls := [some (.ref a)]) rfl ?_
  suffices HH : ∀ M, (M = M0) → AW mX8_init rmX8_init (fun r' M' => r' = (none) ∧ (fun M => M = M0) M') 0 [some (.ref a)] [] M 0 0 from HH M0 rfl
  intro M hm
  refine aw_aload0 0 dX8_init_0 ?_
  refine aw_objInit 1 dX8_init_1 ckO_RX8_1 (Nat.le_of_ble_eq_true rfl) (by decide) (by decide) ?_
  refine aw_vret 4 dX8_init_4 rfl (Nat.zero_le _) (Nat.zero_le _) ?_
  exact ⟨rfl, hm⟩

def rmX5_init : Room := { frames := 1, cells := 1, slots := 60, locals := 20 }
set_option maxHeartbeats 4000000 in
set_option maxRecDepth 100000 in
theorem c_X5_init {M0 : Mem} {a : Nat} (hm : M0.1 = a + 1) (hk : M0.2.1 a = (5, 4)) (q1 : M0.2.2 a 1 = .int 0) (q2 : M0.2.2 a 2 = .int 0) (q3 : M0.2.2 a 3 = .int 0) : AP mX5_init rmX5_init [.ref a] M0 (none) (fun M => M.1 = a + 2 ∧ Fa a M0 M ∧ SV M a 0 0 0 (fun _ => 0)) := by
  refine am_of rfl rfl (ls := [some (.ref a)]) rfl ?_
  suffices HH : ∀ M, (M.1 = a + 1) → (Fa a M0 M) → (M.2.1 a = (5, 4)) → (M.2.2 a 1 = .int 0) → (M.2.2 a 2 = .int 0) → (M.2.2 a 3 = .int 0) → AW mX5_init rmX5_init (fun r' M' => r' = (none) ∧ (fun M => M.1 = a + 2 ∧ Fa a M0 M ∧ SV M a 0 0 0 (fun _ => 0)) M') 0 [some (.ref a)] [] M 0 0 from HH M0 hm (Fa.rf _ _) hk q1 q2 q3
  intro M hm hF hk q1 q2 q3
  refine aw_aload0 0 dX5_init_0 ?_
  refine aw_objInit 1 dX5_init_1 ckO_RX5_3 (Nat.le_of_ble_eq_true rfl) (by decide) (by decide) ?_
  refine aw_aload0 4 dX5_init_4 ?_
  refine aw_bipush 5 60 dX5_init_5 (by decide) ?_
  refine na_new 7 (60) (a + 1) dX5_init_7 rfl (by decide) hm (by decide) (by decide) (fun M hd => ?_)
  replace hF := hF.nw hd (by omega)
  replace hk := ((hd.2.2.2 a (by omega)).1).trans hk
  replace q1 := (congrFun (hd.2.2.2 a (by omega)).2 1).trans q1
  replace q2 := (congrFun (hd.2.2.2 a (by omega)).2 2).trans q2
  replace q3 := (congrFun (hd.2.2.2 a (by omega)).2 3).trans q3
  have hA : AR M (a + 1) 60 (fun _ => 0) := ⟨hd.2.1, fun k _ => by rw [hd.2.2.1]⟩
  have m1 := hd.1
  clear hd
  refine fp_putF 9 dX5_init_9 ckF_RX5_9_5 ckQ_RX5_5_0 rfl hk rfl rfl (fun M hd => ?_)
  replace hF := hF.wd hd.toWd (by omega)
  replace hk := (congrFun hd.2.1 a).trans hk
  replace hA := hA.wd hd.toWd (by omega)
  replace q1 := (hd.2.2.2 a 1 (by omega)).trans q1
  replace q2 := (hd.2.2.2 a 2 (by omega)).trans q2
  replace q3 := (hd.2.2.2 a 3 (by omega)).trans q3
  replace m1 := hd.1.trans m1
  refine aw_vret 12 dX5_init_12 rfl (by decide) (by decide) ?_
  exact ⟨rfl, m1, hF, hk, hd.2.2.1, q1, q2, q3, hA⟩

def INI (M : Mem) : Prop := M.1 = 25 ∧ XO (fun _ _ => 0) M ∧ (M.2.1 3 = (21, 12) ∧ M.2.1 4 = (22, 6) ∧ M.2.1 5 = (23, 9) ∧ M.2.1 6 = (24, 4) ∧ ∀ k, k < 4 → M.2.2 6 k = .ref (17 + 2 * k)) ∧ SX M ∧ TV M 0 ∧ ∀ k, k < 4 → SV M (17 + 2 * k) 0 0 0 (fun _ => 0)

def rmX11_init : Room := { frames := 3, cells := 22, slots := 431, locals := 64 }
set_option maxHeartbeats 4000000 in
set_option maxRecDepth 100000 in
theorem c_X11_init {M0 : Mem} (hM : M0.1 = 3) (kX : M0.2.1 2 = (11, 13)) (x8 : M0.2.2 2 8 = .int 0) (x9 : M0.2.2 2 9 = .int 0) (x10 : M0.2.2 2 10 = .int 0) (x11 : M0.2.2 2 11 = .int 0) (x12 : M0.2.2 2 12 = .int 0) : AP mX11_init rmX11_init [.ref 2] M0 none (fun M => Fa 2 M0 M ∧ INI M) := by
  refine am_of rfl rfl (ls := [some (.ref 2), none]) rfl ?_
  suffices HH : ∀ M, (M.1 = 3) → (Fa 2 M0 M) → (M.2.1 2 = (11, 13)) → (M.2.2 2 8 = .int 0) → (M.2.2 2 9 = .int 0) → (M.2.2 2 10 = .int 0) → (M.2.2 2 11 = .int 0) → (M.2.2 2 12 = .int 0) → AW mX11_init rmX11_init (fun r' M' => r' = none ∧ (fun M => Fa 2 M0 M ∧ INI M) M') 0 [some (.ref 2), none] [] M 0 0 from HH M0 hM (Fa.rf _ _) kX x8 x9 x10 x11 x12
  intro M hM hF kX x8 x9 x10 x11 x12
  refine aw_aload0 0 dX11_init_0 ?_
  refine aw_objInit 1 dX11_init_1 ckO_RX11_3 (Nat.le_of_ble_eq_true rfl) (by decide) (by decide) ?_
  refine aw_aload0 4 dX11_init_4 ?_
  refine aw_bipush 5 12 dX11_init_5 (by decide) ?_
  refine na_anew 7 21 (12) (3) dX11_init_7 ckA_RX11_11 (by decide) rfl (by decide) hM (by decide) (by decide) (fun M hd => ?_)
  replace kX : M.2.1 2 = (11, 13) := ((hd.2.2.2 2 (by decide)).1).trans kX
  replace x8 : M.2.2 2 8 = .int 0 := (congrFun (hd.2.2.2 2 (by decide)).2 8).trans x8
  replace x9 : M.2.2 2 9 = .int 0 := (congrFun (hd.2.2.2 2 (by decide)).2 9).trans x9
  replace x10 : M.2.2 2 10 = .int 0 := (congrFun (hd.2.2.2 2 (by decide)).2 10).trans x10
  replace x11 : M.2.2 2 11 = .int 0 := (congrFun (hd.2.2.2 2 (by decide)).2 11).trans x11
  replace x12 : M.2.2 2 12 = .int 0 := (congrFun (hd.2.2.2 2 (by decide)).2 12).trans x12
  replace hF := hF.nw hd (by decide)
  have k3 : M.2.1 3 = (21, 12) := hd.2.1
  replace hM : M.1 = 4 := hd.1
  clear hd
  refine fp_putF 10 dX11_init_10 ckF_RX11_13_11 ckQ_RX11_11_0 rfl kX rfl rfl (fun M hd => ?_)
  replace kX : M.2.1 2 = (11, 13) := (congrFun hd.2.1 2).trans kX
  replace x8 : M.2.2 2 8 = .int 0 := (hd.2.2.2 2 8 (by decide)).trans x8
  replace x9 : M.2.2 2 9 = .int 0 := (hd.2.2.2 2 9 (by decide)).trans x9
  replace x10 : M.2.2 2 10 = .int 0 := (hd.2.2.2 2 10 (by decide)).trans x10
  replace x11 : M.2.2 2 11 = .int 0 := (hd.2.2.2 2 11 (by decide)).trans x11
  replace x12 : M.2.2 2 12 = .int 0 := (hd.2.2.2 2 12 (by decide)).trans x12
  replace k3 : M.2.1 3 = (21, 12) := (congrFun hd.2.1 3).trans k3
  replace hF := hF.wd hd.toWd (by decide)
  replace hM := hd.1.trans hM
  have x0 : M.2.2 2 0 = .ref 3 := hd.2.2.1
  clear hd
  refine aw_aload0 13 dX11_init_13 ?_
  refine aw_bipush 14 6 dX11_init_14 (by decide) ?_
  refine na_anew 16 22 (6) (4) dX11_init_16 ckA_RX11_17 (by decide) rfl (by decide) hM (by decide) (by decide) (fun M hd => ?_)
  replace kX : M.2.1 2 = (11, 13) := ((hd.2.2.2 2 (by decide)).1).trans kX
  replace x8 : M.2.2 2 8 = .int 0 := (congrFun (hd.2.2.2 2 (by decide)).2 8).trans x8
  replace x9 : M.2.2 2 9 = .int 0 := (congrFun (hd.2.2.2 2 (by decide)).2 9).trans x9
  replace x10 : M.2.2 2 10 = .int 0 := (congrFun (hd.2.2.2 2 (by decide)).2 10).trans x10
  replace x11 : M.2.2 2 11 = .int 0 := (congrFun (hd.2.2.2 2 (by decide)).2 11).trans x11
  replace x12 : M.2.2 2 12 = .int 0 := (congrFun (hd.2.2.2 2 (by decide)).2 12).trans x12
  replace k3 : M.2.1 3 = (21, 12) := ((hd.2.2.2 3 (by decide)).1).trans k3
  replace x0 : M.2.2 2 0 = .ref 3 := (congrFun (hd.2.2.2 2 (by decide)).2 0).trans x0
  replace hF := hF.nw hd (by decide)
  have k4 : M.2.1 4 = (22, 6) := hd.2.1
  replace hM : M.1 = 5 := hd.1
  clear hd
  refine fp_putF 19 dX11_init_19 ckF_RX11_19_11 ckQ_RX11_11_1 rfl kX rfl rfl (fun M hd => ?_)
  replace kX : M.2.1 2 = (11, 13) := (congrFun hd.2.1 2).trans kX
  replace x8 : M.2.2 2 8 = .int 0 := (hd.2.2.2 2 8 (by decide)).trans x8
  replace x9 : M.2.2 2 9 = .int 0 := (hd.2.2.2 2 9 (by decide)).trans x9
  replace x10 : M.2.2 2 10 = .int 0 := (hd.2.2.2 2 10 (by decide)).trans x10
  replace x11 : M.2.2 2 11 = .int 0 := (hd.2.2.2 2 11 (by decide)).trans x11
  replace x12 : M.2.2 2 12 = .int 0 := (hd.2.2.2 2 12 (by decide)).trans x12
  replace k3 : M.2.1 3 = (21, 12) := (congrFun hd.2.1 3).trans k3
  replace x0 : M.2.2 2 0 = .ref 3 := (hd.2.2.2 2 0 (by decide)).trans x0
  replace k4 : M.2.1 4 = (22, 6) := (congrFun hd.2.1 4).trans k4
  replace hF := hF.wd hd.toWd (by decide)
  replace hM := hd.1.trans hM
  have x1 : M.2.2 2 1 = .ref 4 := hd.2.2.1
  clear hd
  refine aw_aload0 22 dX11_init_22 ?_
  refine aw_bipush 23 9 dX11_init_23 (by decide) ?_
  refine na_anew 25 23 (9) (5) dX11_init_25 ckA_RX11_23 (by decide) rfl (by decide) hM (by decide) (by decide) (fun M hd => ?_)
  replace kX : M.2.1 2 = (11, 13) := ((hd.2.2.2 2 (by decide)).1).trans kX
  replace x8 : M.2.2 2 8 = .int 0 := (congrFun (hd.2.2.2 2 (by decide)).2 8).trans x8
  replace x9 : M.2.2 2 9 = .int 0 := (congrFun (hd.2.2.2 2 (by decide)).2 9).trans x9
  replace x10 : M.2.2 2 10 = .int 0 := (congrFun (hd.2.2.2 2 (by decide)).2 10).trans x10
  replace x11 : M.2.2 2 11 = .int 0 := (congrFun (hd.2.2.2 2 (by decide)).2 11).trans x11
  replace x12 : M.2.2 2 12 = .int 0 := (congrFun (hd.2.2.2 2 (by decide)).2 12).trans x12
  replace k3 : M.2.1 3 = (21, 12) := ((hd.2.2.2 3 (by decide)).1).trans k3
  replace x0 : M.2.2 2 0 = .ref 3 := (congrFun (hd.2.2.2 2 (by decide)).2 0).trans x0
  replace k4 : M.2.1 4 = (22, 6) := ((hd.2.2.2 4 (by decide)).1).trans k4
  replace x1 : M.2.2 2 1 = .ref 4 := (congrFun (hd.2.2.2 2 (by decide)).2 1).trans x1
  replace hF := hF.nw hd (by decide)
  have k5 : M.2.1 5 = (23, 9) := hd.2.1
  replace hM : M.1 = 6 := hd.1
  clear hd
  refine fp_putF 28 dX11_init_28 ckF_RX11_25_11 ckQ_RX11_11_2 rfl kX rfl rfl (fun M hd => ?_)
  replace kX : M.2.1 2 = (11, 13) := (congrFun hd.2.1 2).trans kX
  replace x8 : M.2.2 2 8 = .int 0 := (hd.2.2.2 2 8 (by decide)).trans x8
  replace x9 : M.2.2 2 9 = .int 0 := (hd.2.2.2 2 9 (by decide)).trans x9
  replace x10 : M.2.2 2 10 = .int 0 := (hd.2.2.2 2 10 (by decide)).trans x10
  replace x11 : M.2.2 2 11 = .int 0 := (hd.2.2.2 2 11 (by decide)).trans x11
  replace x12 : M.2.2 2 12 = .int 0 := (hd.2.2.2 2 12 (by decide)).trans x12
  replace k3 : M.2.1 3 = (21, 12) := (congrFun hd.2.1 3).trans k3
  replace x0 : M.2.2 2 0 = .ref 3 := (hd.2.2.2 2 0 (by decide)).trans x0
  replace k4 : M.2.1 4 = (22, 6) := (congrFun hd.2.1 4).trans k4
  replace x1 : M.2.2 2 1 = .ref 4 := (hd.2.2.2 2 1 (by decide)).trans x1
  replace k5 : M.2.1 5 = (23, 9) := (congrFun hd.2.1 5).trans k5
  replace hF := hF.wd hd.toWd (by decide)
  replace hM := hd.1.trans hM
  have x2 : M.2.2 2 2 = .ref 5 := hd.2.2.1
  clear hd
  refine aw_aload0 31 dX11_init_31 ?_
  refine aw_ic4 32 dX11_init_32 ?_
  refine na_anew 33 24 (4) (6) dX11_init_33 ckA_RX11_29 (by decide) rfl (by decide) hM (by decide) (by decide) (fun M hd => ?_)
  replace kX : M.2.1 2 = (11, 13) := ((hd.2.2.2 2 (by decide)).1).trans kX
  replace x8 : M.2.2 2 8 = .int 0 := (congrFun (hd.2.2.2 2 (by decide)).2 8).trans x8
  replace x9 : M.2.2 2 9 = .int 0 := (congrFun (hd.2.2.2 2 (by decide)).2 9).trans x9
  replace x10 : M.2.2 2 10 = .int 0 := (congrFun (hd.2.2.2 2 (by decide)).2 10).trans x10
  replace x11 : M.2.2 2 11 = .int 0 := (congrFun (hd.2.2.2 2 (by decide)).2 11).trans x11
  replace x12 : M.2.2 2 12 = .int 0 := (congrFun (hd.2.2.2 2 (by decide)).2 12).trans x12
  replace k3 : M.2.1 3 = (21, 12) := ((hd.2.2.2 3 (by decide)).1).trans k3
  replace x0 : M.2.2 2 0 = .ref 3 := (congrFun (hd.2.2.2 2 (by decide)).2 0).trans x0
  replace k4 : M.2.1 4 = (22, 6) := ((hd.2.2.2 4 (by decide)).1).trans k4
  replace x1 : M.2.2 2 1 = .ref 4 := (congrFun (hd.2.2.2 2 (by decide)).2 1).trans x1
  replace k5 : M.2.1 5 = (23, 9) := ((hd.2.2.2 5 (by decide)).1).trans k5
  replace x2 : M.2.2 2 2 = .ref 5 := (congrFun (hd.2.2.2 2 (by decide)).2 2).trans x2
  replace hF := hF.nw hd (by decide)
  have k6 : M.2.1 6 = (24, 4) := hd.2.1
  replace hM : M.1 = 7 := hd.1
  clear hd
  refine fp_putF 36 dX11_init_36 ckF_RX11_31_11 ckQ_RX11_11_3 rfl kX rfl rfl (fun M hd => ?_)
  replace kX : M.2.1 2 = (11, 13) := (congrFun hd.2.1 2).trans kX
  replace x8 : M.2.2 2 8 = .int 0 := (hd.2.2.2 2 8 (by decide)).trans x8
  replace x9 : M.2.2 2 9 = .int 0 := (hd.2.2.2 2 9 (by decide)).trans x9
  replace x10 : M.2.2 2 10 = .int 0 := (hd.2.2.2 2 10 (by decide)).trans x10
  replace x11 : M.2.2 2 11 = .int 0 := (hd.2.2.2 2 11 (by decide)).trans x11
  replace x12 : M.2.2 2 12 = .int 0 := (hd.2.2.2 2 12 (by decide)).trans x12
  replace k3 : M.2.1 3 = (21, 12) := (congrFun hd.2.1 3).trans k3
  replace x0 : M.2.2 2 0 = .ref 3 := (hd.2.2.2 2 0 (by decide)).trans x0
  replace k4 : M.2.1 4 = (22, 6) := (congrFun hd.2.1 4).trans k4
  replace x1 : M.2.2 2 1 = .ref 4 := (hd.2.2.2 2 1 (by decide)).trans x1
  replace k5 : M.2.1 5 = (23, 9) := (congrFun hd.2.1 5).trans k5
  replace x2 : M.2.2 2 2 = .ref 5 := (hd.2.2.2 2 2 (by decide)).trans x2
  replace k6 : M.2.1 6 = (24, 4) := (congrFun hd.2.1 6).trans k6
  replace hF := hF.wd hd.toWd (by decide)
  replace hM := hd.1.trans hM
  have x3 : M.2.2 2 3 = .ref 6 := hd.2.2.1
  clear hd
  refine aw_aload0 39 dX11_init_39 ?_
  refine na_obj 40 1 (7) dX11_init_40 ckN_RX11_35 rfl hM (by decide) (by decide) (fun M hd => ?_)
  replace kX : M.2.1 2 = (11, 13) := ((hd.2.2.2 2 (by decide)).1).trans kX
  replace x8 : M.2.2 2 8 = .int 0 := (congrFun (hd.2.2.2 2 (by decide)).2 8).trans x8
  replace x9 : M.2.2 2 9 = .int 0 := (congrFun (hd.2.2.2 2 (by decide)).2 9).trans x9
  replace x10 : M.2.2 2 10 = .int 0 := (congrFun (hd.2.2.2 2 (by decide)).2 10).trans x10
  replace x11 : M.2.2 2 11 = .int 0 := (congrFun (hd.2.2.2 2 (by decide)).2 11).trans x11
  replace x12 : M.2.2 2 12 = .int 0 := (congrFun (hd.2.2.2 2 (by decide)).2 12).trans x12
  replace k3 : M.2.1 3 = (21, 12) := ((hd.2.2.2 3 (by decide)).1).trans k3
  replace x0 : M.2.2 2 0 = .ref 3 := (congrFun (hd.2.2.2 2 (by decide)).2 0).trans x0
  replace k4 : M.2.1 4 = (22, 6) := ((hd.2.2.2 4 (by decide)).1).trans k4
  replace x1 : M.2.2 2 1 = .ref 4 := (congrFun (hd.2.2.2 2 (by decide)).2 1).trans x1
  replace k5 : M.2.1 5 = (23, 9) := ((hd.2.2.2 5 (by decide)).1).trans k5
  replace x2 : M.2.2 2 2 = .ref 5 := (congrFun (hd.2.2.2 2 (by decide)).2 2).trans x2
  replace k6 : M.2.1 6 = (24, 4) := ((hd.2.2.2 6 (by decide)).1).trans k6
  replace x3 : M.2.2 2 3 = .ref 6 := (congrFun (hd.2.2.2 2 (by decide)).2 3).trans x3
  replace hF := hF.nw hd (by decide)
  have k7 : M.2.1 7 = (9, 1) := hd.2.1
  replace hM : M.1 = 8 := hd.1
  clear hd
  refine aw_dup 43 dX11_init_43 rfl ?_
  refine ap_in 44 dX11_init_44 (c_X9_init hM k7) ckI_RX11_37 cd_X9_init rfl rfl (Nat.le_of_ble_eq_true rfl) ⟨⟨by decide, by decide⟩, by decide, by decide⟩ (fun M hq => ?_)
  replace kX : M.2.1 2 = (11, 13) := ((hq.2.1 2 (by decide)).1).trans kX
  replace x8 : M.2.2 2 8 = .int 0 := (congrFun (hq.2.1 2 (by decide)).2 8).trans x8
  replace x9 : M.2.2 2 9 = .int 0 := (congrFun (hq.2.1 2 (by decide)).2 9).trans x9
  replace x10 : M.2.2 2 10 = .int 0 := (congrFun (hq.2.1 2 (by decide)).2 10).trans x10
  replace x11 : M.2.2 2 11 = .int 0 := (congrFun (hq.2.1 2 (by decide)).2 11).trans x11
  replace x12 : M.2.2 2 12 = .int 0 := (congrFun (hq.2.1 2 (by decide)).2 12).trans x12
  replace k3 : M.2.1 3 = (21, 12) := ((hq.2.1 3 (by decide)).1).trans k3
  replace x0 : M.2.2 2 0 = .ref 3 := (congrFun (hq.2.1 2 (by decide)).2 0).trans x0
  replace k4 : M.2.1 4 = (22, 6) := ((hq.2.1 4 (by decide)).1).trans k4
  replace x1 : M.2.2 2 1 = .ref 4 := (congrFun (hq.2.1 2 (by decide)).2 1).trans x1
  replace k5 : M.2.1 5 = (23, 9) := ((hq.2.1 5 (by decide)).1).trans k5
  replace x2 : M.2.2 2 2 = .ref 5 := (congrFun (hq.2.1 2 (by decide)).2 2).trans x2
  replace k6 : M.2.1 6 = (24, 4) := ((hq.2.1 6 (by decide)).1).trans k6
  replace x3 : M.2.2 2 3 = .ref 6 := (congrFun (hq.2.1 2 (by decide)).2 3).trans x3
  replace hF := hF.trans hq.2.1 (by decide)
  have k7 : M.2.1 7 = (9, 1) := hq.2.2.1
  have f7 : M.2.2 7 0 = .ref 8 := hq.2.2.2.1
  have k8 : M.2.1 8 = (20, 32) := hq.2.2.2.2
  replace hM : M.1 = 9 := hq.1
  clear hq
  refine fp_putF 47 dX11_init_47 ckF_RX11_38_11 ckQ_RX11_11_4 rfl kX rfl rfl (fun M hd => ?_)
  replace kX : M.2.1 2 = (11, 13) := (congrFun hd.2.1 2).trans kX
  replace x8 : M.2.2 2 8 = .int 0 := (hd.2.2.2 2 8 (by decide)).trans x8
  replace x9 : M.2.2 2 9 = .int 0 := (hd.2.2.2 2 9 (by decide)).trans x9
  replace x10 : M.2.2 2 10 = .int 0 := (hd.2.2.2 2 10 (by decide)).trans x10
  replace x11 : M.2.2 2 11 = .int 0 := (hd.2.2.2 2 11 (by decide)).trans x11
  replace x12 : M.2.2 2 12 = .int 0 := (hd.2.2.2 2 12 (by decide)).trans x12
  replace k3 : M.2.1 3 = (21, 12) := (congrFun hd.2.1 3).trans k3
  replace x0 : M.2.2 2 0 = .ref 3 := (hd.2.2.2 2 0 (by decide)).trans x0
  replace k4 : M.2.1 4 = (22, 6) := (congrFun hd.2.1 4).trans k4
  replace x1 : M.2.2 2 1 = .ref 4 := (hd.2.2.2 2 1 (by decide)).trans x1
  replace k5 : M.2.1 5 = (23, 9) := (congrFun hd.2.1 5).trans k5
  replace x2 : M.2.2 2 2 = .ref 5 := (hd.2.2.2 2 2 (by decide)).trans x2
  replace k6 : M.2.1 6 = (24, 4) := (congrFun hd.2.1 6).trans k6
  replace x3 : M.2.2 2 3 = .ref 6 := (hd.2.2.2 2 3 (by decide)).trans x3
  replace k7 : M.2.1 7 = (9, 1) := (congrFun hd.2.1 7).trans k7
  replace f7 : M.2.2 7 0 = .ref 8 := (hd.2.2.2 7 0 (by decide)).trans f7
  replace k8 : M.2.1 8 = (20, 32) := (congrFun hd.2.1 8).trans k8
  replace hF := hF.wd hd.toWd (by decide)
  replace hM := hd.1.trans hM
  have x4 : M.2.2 2 4 = .ref 7 := hd.2.2.1
  clear hd
  refine aw_aload0 50 dX11_init_50 ?_
  refine na_obj 51 6 (9) dX11_init_51 ckN_RX11_42 rfl hM (by decide) (by decide) (fun M hd => ?_)
  replace kX : M.2.1 2 = (11, 13) := ((hd.2.2.2 2 (by decide)).1).trans kX
  replace x8 : M.2.2 2 8 = .int 0 := (congrFun (hd.2.2.2 2 (by decide)).2 8).trans x8
  replace x9 : M.2.2 2 9 = .int 0 := (congrFun (hd.2.2.2 2 (by decide)).2 9).trans x9
  replace x10 : M.2.2 2 10 = .int 0 := (congrFun (hd.2.2.2 2 (by decide)).2 10).trans x10
  replace x11 : M.2.2 2 11 = .int 0 := (congrFun (hd.2.2.2 2 (by decide)).2 11).trans x11
  replace x12 : M.2.2 2 12 = .int 0 := (congrFun (hd.2.2.2 2 (by decide)).2 12).trans x12
  replace k3 : M.2.1 3 = (21, 12) := ((hd.2.2.2 3 (by decide)).1).trans k3
  replace x0 : M.2.2 2 0 = .ref 3 := (congrFun (hd.2.2.2 2 (by decide)).2 0).trans x0
  replace k4 : M.2.1 4 = (22, 6) := ((hd.2.2.2 4 (by decide)).1).trans k4
  replace x1 : M.2.2 2 1 = .ref 4 := (congrFun (hd.2.2.2 2 (by decide)).2 1).trans x1
  replace k5 : M.2.1 5 = (23, 9) := ((hd.2.2.2 5 (by decide)).1).trans k5
  replace x2 : M.2.2 2 2 = .ref 5 := (congrFun (hd.2.2.2 2 (by decide)).2 2).trans x2
  replace k6 : M.2.1 6 = (24, 4) := ((hd.2.2.2 6 (by decide)).1).trans k6
  replace x3 : M.2.2 2 3 = .ref 6 := (congrFun (hd.2.2.2 2 (by decide)).2 3).trans x3
  replace k7 : M.2.1 7 = (9, 1) := ((hd.2.2.2 7 (by decide)).1).trans k7
  replace f7 : M.2.2 7 0 = .ref 8 := (congrFun (hd.2.2.2 7 (by decide)).2 0).trans f7
  replace k8 : M.2.1 8 = (20, 32) := ((hd.2.2.2 8 (by decide)).1).trans k8
  replace x4 : M.2.2 2 4 = .ref 7 := (congrFun (hd.2.2.2 2 (by decide)).2 4).trans x4
  replace hF := hF.nw hd (by decide)
  have k9 : M.2.1 9 = (4, 6) := hd.2.1
  replace hM : M.1 = 10 := hd.1
  clear hd
  refine aw_dup 54 dX11_init_54 rfl ?_
  refine ap_in 55 dX11_init_55 (c_X4_init hM k9) ckI_RX11_44 cd_X4_init rfl rfl (Nat.le_of_ble_eq_true rfl) ⟨⟨by decide, by decide⟩, by decide, by decide⟩ (fun M hq => ?_)
  replace kX : M.2.1 2 = (11, 13) := ((hq.2.1 2 (by decide)).1).trans kX
  replace x8 : M.2.2 2 8 = .int 0 := (congrFun (hq.2.1 2 (by decide)).2 8).trans x8
  replace x9 : M.2.2 2 9 = .int 0 := (congrFun (hq.2.1 2 (by decide)).2 9).trans x9
  replace x10 : M.2.2 2 10 = .int 0 := (congrFun (hq.2.1 2 (by decide)).2 10).trans x10
  replace x11 : M.2.2 2 11 = .int 0 := (congrFun (hq.2.1 2 (by decide)).2 11).trans x11
  replace x12 : M.2.2 2 12 = .int 0 := (congrFun (hq.2.1 2 (by decide)).2 12).trans x12
  replace k3 : M.2.1 3 = (21, 12) := ((hq.2.1 3 (by decide)).1).trans k3
  replace x0 : M.2.2 2 0 = .ref 3 := (congrFun (hq.2.1 2 (by decide)).2 0).trans x0
  replace k4 : M.2.1 4 = (22, 6) := ((hq.2.1 4 (by decide)).1).trans k4
  replace x1 : M.2.2 2 1 = .ref 4 := (congrFun (hq.2.1 2 (by decide)).2 1).trans x1
  replace k5 : M.2.1 5 = (23, 9) := ((hq.2.1 5 (by decide)).1).trans k5
  replace x2 : M.2.2 2 2 = .ref 5 := (congrFun (hq.2.1 2 (by decide)).2 2).trans x2
  replace k6 : M.2.1 6 = (24, 4) := ((hq.2.1 6 (by decide)).1).trans k6
  replace x3 : M.2.2 2 3 = .ref 6 := (congrFun (hq.2.1 2 (by decide)).2 3).trans x3
  replace k7 : M.2.1 7 = (9, 1) := ((hq.2.1 7 (by decide)).1).trans k7
  replace f7 : M.2.2 7 0 = .ref 8 := (congrFun (hq.2.1 7 (by decide)).2 0).trans f7
  replace k8 : M.2.1 8 = (20, 32) := ((hq.2.1 8 (by decide)).1).trans k8
  replace x4 : M.2.2 2 4 = .ref 7 := (congrFun (hq.2.1 2 (by decide)).2 4).trans x4
  replace hF := hF.trans hq.2.1 (by decide)
  have k9 : M.2.1 9 = (4, 6) := hq.2.2.1
  have f9 : M.2.2 9 0 = .ref 10 := hq.2.2.2.1
  have g9 : M.2.2 9 2 = .ref 11 := hq.2.2.2.2.1
  have k10 : M.2.1 10 = (20, 5) := hq.2.2.2.2.2.1
  have k11 : M.2.1 11 = (20, 60) := hq.2.2.2.2.2.2
  replace hM : M.1 = 12 := hq.1
  clear hq
  refine fp_putF 58 dX11_init_58 ckF_RX11_45_11 ckQ_RX11_11_5 rfl kX rfl rfl (fun M hd => ?_)
  replace kX : M.2.1 2 = (11, 13) := (congrFun hd.2.1 2).trans kX
  replace x8 : M.2.2 2 8 = .int 0 := (hd.2.2.2 2 8 (by decide)).trans x8
  replace x9 : M.2.2 2 9 = .int 0 := (hd.2.2.2 2 9 (by decide)).trans x9
  replace x10 : M.2.2 2 10 = .int 0 := (hd.2.2.2 2 10 (by decide)).trans x10
  replace x11 : M.2.2 2 11 = .int 0 := (hd.2.2.2 2 11 (by decide)).trans x11
  replace x12 : M.2.2 2 12 = .int 0 := (hd.2.2.2 2 12 (by decide)).trans x12
  replace k3 : M.2.1 3 = (21, 12) := (congrFun hd.2.1 3).trans k3
  replace x0 : M.2.2 2 0 = .ref 3 := (hd.2.2.2 2 0 (by decide)).trans x0
  replace k4 : M.2.1 4 = (22, 6) := (congrFun hd.2.1 4).trans k4
  replace x1 : M.2.2 2 1 = .ref 4 := (hd.2.2.2 2 1 (by decide)).trans x1
  replace k5 : M.2.1 5 = (23, 9) := (congrFun hd.2.1 5).trans k5
  replace x2 : M.2.2 2 2 = .ref 5 := (hd.2.2.2 2 2 (by decide)).trans x2
  replace k6 : M.2.1 6 = (24, 4) := (congrFun hd.2.1 6).trans k6
  replace x3 : M.2.2 2 3 = .ref 6 := (hd.2.2.2 2 3 (by decide)).trans x3
  replace k7 : M.2.1 7 = (9, 1) := (congrFun hd.2.1 7).trans k7
  replace f7 : M.2.2 7 0 = .ref 8 := (hd.2.2.2 7 0 (by decide)).trans f7
  replace k8 : M.2.1 8 = (20, 32) := (congrFun hd.2.1 8).trans k8
  replace x4 : M.2.2 2 4 = .ref 7 := (hd.2.2.2 2 4 (by decide)).trans x4
  replace k9 : M.2.1 9 = (4, 6) := (congrFun hd.2.1 9).trans k9
  replace f9 : M.2.2 9 0 = .ref 10 := (hd.2.2.2 9 0 (by decide)).trans f9
  replace g9 : M.2.2 9 2 = .ref 11 := (hd.2.2.2 9 2 (by decide)).trans g9
  replace k10 : M.2.1 10 = (20, 5) := (congrFun hd.2.1 10).trans k10
  replace k11 : M.2.1 11 = (20, 60) := (congrFun hd.2.1 11).trans k11
  replace hF := hF.wd hd.toWd (by decide)
  replace hM := hd.1.trans hM
  have x5 : M.2.2 2 5 = .ref 9 := hd.2.2.1
  clear hd
  refine aw_aload0 61 dX11_init_61 ?_
  refine na_obj 62 2 (12) dX11_init_62 ckN_RX11_49 rfl hM (by decide) (by decide) (fun M hd => ?_)
  replace kX : M.2.1 2 = (11, 13) := ((hd.2.2.2 2 (by decide)).1).trans kX
  replace x8 : M.2.2 2 8 = .int 0 := (congrFun (hd.2.2.2 2 (by decide)).2 8).trans x8
  replace x9 : M.2.2 2 9 = .int 0 := (congrFun (hd.2.2.2 2 (by decide)).2 9).trans x9
  replace x10 : M.2.2 2 10 = .int 0 := (congrFun (hd.2.2.2 2 (by decide)).2 10).trans x10
  replace x11 : M.2.2 2 11 = .int 0 := (congrFun (hd.2.2.2 2 (by decide)).2 11).trans x11
  replace x12 : M.2.2 2 12 = .int 0 := (congrFun (hd.2.2.2 2 (by decide)).2 12).trans x12
  replace k3 : M.2.1 3 = (21, 12) := ((hd.2.2.2 3 (by decide)).1).trans k3
  replace x0 : M.2.2 2 0 = .ref 3 := (congrFun (hd.2.2.2 2 (by decide)).2 0).trans x0
  replace k4 : M.2.1 4 = (22, 6) := ((hd.2.2.2 4 (by decide)).1).trans k4
  replace x1 : M.2.2 2 1 = .ref 4 := (congrFun (hd.2.2.2 2 (by decide)).2 1).trans x1
  replace k5 : M.2.1 5 = (23, 9) := ((hd.2.2.2 5 (by decide)).1).trans k5
  replace x2 : M.2.2 2 2 = .ref 5 := (congrFun (hd.2.2.2 2 (by decide)).2 2).trans x2
  replace k6 : M.2.1 6 = (24, 4) := ((hd.2.2.2 6 (by decide)).1).trans k6
  replace x3 : M.2.2 2 3 = .ref 6 := (congrFun (hd.2.2.2 2 (by decide)).2 3).trans x3
  replace k7 : M.2.1 7 = (9, 1) := ((hd.2.2.2 7 (by decide)).1).trans k7
  replace f7 : M.2.2 7 0 = .ref 8 := (congrFun (hd.2.2.2 7 (by decide)).2 0).trans f7
  replace k8 : M.2.1 8 = (20, 32) := ((hd.2.2.2 8 (by decide)).1).trans k8
  replace x4 : M.2.2 2 4 = .ref 7 := (congrFun (hd.2.2.2 2 (by decide)).2 4).trans x4
  replace k9 : M.2.1 9 = (4, 6) := ((hd.2.2.2 9 (by decide)).1).trans k9
  replace f9 : M.2.2 9 0 = .ref 10 := (congrFun (hd.2.2.2 9 (by decide)).2 0).trans f9
  replace g9 : M.2.2 9 2 = .ref 11 := (congrFun (hd.2.2.2 9 (by decide)).2 2).trans g9
  replace k10 : M.2.1 10 = (20, 5) := ((hd.2.2.2 10 (by decide)).1).trans k10
  replace k11 : M.2.1 11 = (20, 60) := ((hd.2.2.2 11 (by decide)).1).trans k11
  replace x5 : M.2.2 2 5 = .ref 9 := (congrFun (hd.2.2.2 2 (by decide)).2 5).trans x5
  replace hF := hF.nw hd (by decide)
  have k12 : M.2.1 12 = (10, 2) := hd.2.1
  replace hM : M.1 = 13 := hd.1
  clear hd
  refine aw_dup 65 dX11_init_65 rfl ?_
  refine ap_in 66 dX11_init_66 (c_X10_init hM k12 (by decide)) ckI_RX11_51 cd_X10_init rfl rfl (Nat.le_of_ble_eq_true rfl) ⟨⟨by decide, by decide⟩, by decide, by decide⟩ (fun M hq => ?_)
  replace kX : M.2.1 2 = (11, 13) := ((hq.2.1 2 (by decide)).1).trans kX
  replace x8 : M.2.2 2 8 = .int 0 := (congrFun (hq.2.1 2 (by decide)).2 8).trans x8
  replace x9 : M.2.2 2 9 = .int 0 := (congrFun (hq.2.1 2 (by decide)).2 9).trans x9
  replace x10 : M.2.2 2 10 = .int 0 := (congrFun (hq.2.1 2 (by decide)).2 10).trans x10
  replace x11 : M.2.2 2 11 = .int 0 := (congrFun (hq.2.1 2 (by decide)).2 11).trans x11
  replace x12 : M.2.2 2 12 = .int 0 := (congrFun (hq.2.1 2 (by decide)).2 12).trans x12
  replace k3 : M.2.1 3 = (21, 12) := ((hq.2.1 3 (by decide)).1).trans k3
  replace x0 : M.2.2 2 0 = .ref 3 := (congrFun (hq.2.1 2 (by decide)).2 0).trans x0
  replace k4 : M.2.1 4 = (22, 6) := ((hq.2.1 4 (by decide)).1).trans k4
  replace x1 : M.2.2 2 1 = .ref 4 := (congrFun (hq.2.1 2 (by decide)).2 1).trans x1
  replace k5 : M.2.1 5 = (23, 9) := ((hq.2.1 5 (by decide)).1).trans k5
  replace x2 : M.2.2 2 2 = .ref 5 := (congrFun (hq.2.1 2 (by decide)).2 2).trans x2
  replace k6 : M.2.1 6 = (24, 4) := ((hq.2.1 6 (by decide)).1).trans k6
  replace x3 : M.2.2 2 3 = .ref 6 := (congrFun (hq.2.1 2 (by decide)).2 3).trans x3
  replace k7 : M.2.1 7 = (9, 1) := ((hq.2.1 7 (by decide)).1).trans k7
  replace f7 : M.2.2 7 0 = .ref 8 := (congrFun (hq.2.1 7 (by decide)).2 0).trans f7
  replace k8 : M.2.1 8 = (20, 32) := ((hq.2.1 8 (by decide)).1).trans k8
  replace x4 : M.2.2 2 4 = .ref 7 := (congrFun (hq.2.1 2 (by decide)).2 4).trans x4
  replace k9 : M.2.1 9 = (4, 6) := ((hq.2.1 9 (by decide)).1).trans k9
  replace f9 : M.2.2 9 0 = .ref 10 := (congrFun (hq.2.1 9 (by decide)).2 0).trans f9
  replace g9 : M.2.2 9 2 = .ref 11 := (congrFun (hq.2.1 9 (by decide)).2 2).trans g9
  replace k10 : M.2.1 10 = (20, 5) := ((hq.2.1 10 (by decide)).1).trans k10
  replace k11 : M.2.1 11 = (20, 60) := ((hq.2.1 11 (by decide)).1).trans k11
  replace x5 : M.2.2 2 5 = .ref 9 := (congrFun (hq.2.1 2 (by decide)).2 5).trans x5
  replace hF := hF.trans hq.2.1 (by decide)
  have k12 : M.2.1 12 = (10, 2) := hq.2.2.1
  have f12 : M.2.2 12 0 = .ref 13 := hq.2.2.2.1
  have g12 : M.2.2 12 1 = .ref 15 := hq.2.2.2.2.1
  have k15 : M.2.1 15 = (20, 16) := hq.2.2.2.2.2.1
  have p13 : PV M 13 (-9) 0 0 (fun _ => -1) .null := hq.2.2.2.2.2.2
  replace hM : M.1 = 16 := hq.1
  clear hq
  refine fp_putF 69 dX11_init_69 ckF_RX11_52_11 ckQ_RX11_11_6 rfl kX rfl rfl (fun M hd => ?_)
  replace kX : M.2.1 2 = (11, 13) := (congrFun hd.2.1 2).trans kX
  replace x8 : M.2.2 2 8 = .int 0 := (hd.2.2.2 2 8 (by decide)).trans x8
  replace x9 : M.2.2 2 9 = .int 0 := (hd.2.2.2 2 9 (by decide)).trans x9
  replace x10 : M.2.2 2 10 = .int 0 := (hd.2.2.2 2 10 (by decide)).trans x10
  replace x11 : M.2.2 2 11 = .int 0 := (hd.2.2.2 2 11 (by decide)).trans x11
  replace x12 : M.2.2 2 12 = .int 0 := (hd.2.2.2 2 12 (by decide)).trans x12
  replace k3 : M.2.1 3 = (21, 12) := (congrFun hd.2.1 3).trans k3
  replace x0 : M.2.2 2 0 = .ref 3 := (hd.2.2.2 2 0 (by decide)).trans x0
  replace k4 : M.2.1 4 = (22, 6) := (congrFun hd.2.1 4).trans k4
  replace x1 : M.2.2 2 1 = .ref 4 := (hd.2.2.2 2 1 (by decide)).trans x1
  replace k5 : M.2.1 5 = (23, 9) := (congrFun hd.2.1 5).trans k5
  replace x2 : M.2.2 2 2 = .ref 5 := (hd.2.2.2 2 2 (by decide)).trans x2
  replace k6 : M.2.1 6 = (24, 4) := (congrFun hd.2.1 6).trans k6
  replace x3 : M.2.2 2 3 = .ref 6 := (hd.2.2.2 2 3 (by decide)).trans x3
  replace k7 : M.2.1 7 = (9, 1) := (congrFun hd.2.1 7).trans k7
  replace f7 : M.2.2 7 0 = .ref 8 := (hd.2.2.2 7 0 (by decide)).trans f7
  replace k8 : M.2.1 8 = (20, 32) := (congrFun hd.2.1 8).trans k8
  replace x4 : M.2.2 2 4 = .ref 7 := (hd.2.2.2 2 4 (by decide)).trans x4
  replace k9 : M.2.1 9 = (4, 6) := (congrFun hd.2.1 9).trans k9
  replace f9 : M.2.2 9 0 = .ref 10 := (hd.2.2.2 9 0 (by decide)).trans f9
  replace g9 : M.2.2 9 2 = .ref 11 := (hd.2.2.2 9 2 (by decide)).trans g9
  replace k10 : M.2.1 10 = (20, 5) := (congrFun hd.2.1 10).trans k10
  replace k11 : M.2.1 11 = (20, 60) := (congrFun hd.2.1 11).trans k11
  replace x5 : M.2.2 2 5 = .ref 9 := (hd.2.2.2 2 5 (by decide)).trans x5
  replace k12 : M.2.1 12 = (10, 2) := (congrFun hd.2.1 12).trans k12
  replace f12 : M.2.2 12 0 = .ref 13 := (hd.2.2.2 12 0 (by decide)).trans f12
  replace g12 : M.2.2 12 1 = .ref 15 := (hd.2.2.2 12 1 (by decide)).trans g12
  replace k15 : M.2.1 15 = (20, 16) := (congrFun hd.2.1 15).trans k15
  replace p13 : PV M 13 (-9) 0 0 (fun _ => -1) .null := p13.frs (S := fun b => b = 2) (hd.toWd.toFrS rfl) (by decide) (by decide)
  replace hF := hF.wd hd.toWd (by decide)
  replace hM := hd.1.trans hM
  have x6 : M.2.2 2 6 = .ref 12 := hd.2.2.1
  clear hd
  refine aw_aload0 72 dX11_init_72 ?_
  refine na_obj 73 1 (16) dX11_init_73 ckN_RX11_56 rfl hM (by decide) (by decide) (fun M hd => ?_)
  replace kX : M.2.1 2 = (11, 13) := ((hd.2.2.2 2 (by decide)).1).trans kX
  replace x8 : M.2.2 2 8 = .int 0 := (congrFun (hd.2.2.2 2 (by decide)).2 8).trans x8
  replace x9 : M.2.2 2 9 = .int 0 := (congrFun (hd.2.2.2 2 (by decide)).2 9).trans x9
  replace x10 : M.2.2 2 10 = .int 0 := (congrFun (hd.2.2.2 2 (by decide)).2 10).trans x10
  replace x11 : M.2.2 2 11 = .int 0 := (congrFun (hd.2.2.2 2 (by decide)).2 11).trans x11
  replace x12 : M.2.2 2 12 = .int 0 := (congrFun (hd.2.2.2 2 (by decide)).2 12).trans x12
  replace k3 : M.2.1 3 = (21, 12) := ((hd.2.2.2 3 (by decide)).1).trans k3
  replace x0 : M.2.2 2 0 = .ref 3 := (congrFun (hd.2.2.2 2 (by decide)).2 0).trans x0
  replace k4 : M.2.1 4 = (22, 6) := ((hd.2.2.2 4 (by decide)).1).trans k4
  replace x1 : M.2.2 2 1 = .ref 4 := (congrFun (hd.2.2.2 2 (by decide)).2 1).trans x1
  replace k5 : M.2.1 5 = (23, 9) := ((hd.2.2.2 5 (by decide)).1).trans k5
  replace x2 : M.2.2 2 2 = .ref 5 := (congrFun (hd.2.2.2 2 (by decide)).2 2).trans x2
  replace k6 : M.2.1 6 = (24, 4) := ((hd.2.2.2 6 (by decide)).1).trans k6
  replace x3 : M.2.2 2 3 = .ref 6 := (congrFun (hd.2.2.2 2 (by decide)).2 3).trans x3
  replace k7 : M.2.1 7 = (9, 1) := ((hd.2.2.2 7 (by decide)).1).trans k7
  replace f7 : M.2.2 7 0 = .ref 8 := (congrFun (hd.2.2.2 7 (by decide)).2 0).trans f7
  replace k8 : M.2.1 8 = (20, 32) := ((hd.2.2.2 8 (by decide)).1).trans k8
  replace x4 : M.2.2 2 4 = .ref 7 := (congrFun (hd.2.2.2 2 (by decide)).2 4).trans x4
  replace k9 : M.2.1 9 = (4, 6) := ((hd.2.2.2 9 (by decide)).1).trans k9
  replace f9 : M.2.2 9 0 = .ref 10 := (congrFun (hd.2.2.2 9 (by decide)).2 0).trans f9
  replace g9 : M.2.2 9 2 = .ref 11 := (congrFun (hd.2.2.2 9 (by decide)).2 2).trans g9
  replace k10 : M.2.1 10 = (20, 5) := ((hd.2.2.2 10 (by decide)).1).trans k10
  replace k11 : M.2.1 11 = (20, 60) := ((hd.2.2.2 11 (by decide)).1).trans k11
  replace x5 : M.2.2 2 5 = .ref 9 := (congrFun (hd.2.2.2 2 (by decide)).2 5).trans x5
  replace k12 : M.2.1 12 = (10, 2) := ((hd.2.2.2 12 (by decide)).1).trans k12
  replace f12 : M.2.2 12 0 = .ref 13 := (congrFun (hd.2.2.2 12 (by decide)).2 0).trans f12
  replace g12 : M.2.2 12 1 = .ref 15 := (congrFun (hd.2.2.2 12 (by decide)).2 1).trans g12
  replace k15 : M.2.1 15 = (20, 16) := ((hd.2.2.2 15 (by decide)).1).trans k15
  replace p13 : PV M 13 (-9) 0 0 (fun _ => -1) .null := p13.kp (hd.kp (S := fun _ => False) hM) (by rw [hM]; decide) (fun q => q) (fun q => q)
  replace x6 : M.2.2 2 6 = .ref 12 := (congrFun (hd.2.2.2 2 (by decide)).2 6).trans x6
  replace hF := hF.nw hd (by decide)
  have k16 : M.2.1 16 = (8, 1) := hd.2.1
  have t0 : M.2.2 16 0 = .int 0 := by rw [hd.2.2.1]; rfl
  replace hM : M.1 = 17 := hd.1
  clear hd
  refine aw_dup 76 dX11_init_76 rfl ?_
  refine ap_in 77 dX11_init_77 c_X8_init ckI_RX11_58 cd_X8_init rfl rfl (Nat.le_of_ble_eq_true rfl) ⟨⟨by decide, by decide⟩, by decide, by decide⟩ (fun M hq => ?_)
  subst hq
  refine fp_putF 80 dX11_init_80 ckF_RX11_59_11 ckQ_RX11_11_7 rfl kX rfl rfl (fun M hd => ?_)
  replace kX : M.2.1 2 = (11, 13) := (congrFun hd.2.1 2).trans kX
  replace x8 : M.2.2 2 8 = .int 0 := (hd.2.2.2 2 8 (by decide)).trans x8
  replace x9 : M.2.2 2 9 = .int 0 := (hd.2.2.2 2 9 (by decide)).trans x9
  replace x10 : M.2.2 2 10 = .int 0 := (hd.2.2.2 2 10 (by decide)).trans x10
  replace x11 : M.2.2 2 11 = .int 0 := (hd.2.2.2 2 11 (by decide)).trans x11
  replace x12 : M.2.2 2 12 = .int 0 := (hd.2.2.2 2 12 (by decide)).trans x12
  replace k3 : M.2.1 3 = (21, 12) := (congrFun hd.2.1 3).trans k3
  replace x0 : M.2.2 2 0 = .ref 3 := (hd.2.2.2 2 0 (by decide)).trans x0
  replace k4 : M.2.1 4 = (22, 6) := (congrFun hd.2.1 4).trans k4
  replace x1 : M.2.2 2 1 = .ref 4 := (hd.2.2.2 2 1 (by decide)).trans x1
  replace k5 : M.2.1 5 = (23, 9) := (congrFun hd.2.1 5).trans k5
  replace x2 : M.2.2 2 2 = .ref 5 := (hd.2.2.2 2 2 (by decide)).trans x2
  replace k6 : M.2.1 6 = (24, 4) := (congrFun hd.2.1 6).trans k6
  replace x3 : M.2.2 2 3 = .ref 6 := (hd.2.2.2 2 3 (by decide)).trans x3
  replace k7 : M.2.1 7 = (9, 1) := (congrFun hd.2.1 7).trans k7
  replace f7 : M.2.2 7 0 = .ref 8 := (hd.2.2.2 7 0 (by decide)).trans f7
  replace k8 : M.2.1 8 = (20, 32) := (congrFun hd.2.1 8).trans k8
  replace x4 : M.2.2 2 4 = .ref 7 := (hd.2.2.2 2 4 (by decide)).trans x4
  replace k9 : M.2.1 9 = (4, 6) := (congrFun hd.2.1 9).trans k9
  replace f9 : M.2.2 9 0 = .ref 10 := (hd.2.2.2 9 0 (by decide)).trans f9
  replace g9 : M.2.2 9 2 = .ref 11 := (hd.2.2.2 9 2 (by decide)).trans g9
  replace k10 : M.2.1 10 = (20, 5) := (congrFun hd.2.1 10).trans k10
  replace k11 : M.2.1 11 = (20, 60) := (congrFun hd.2.1 11).trans k11
  replace x5 : M.2.2 2 5 = .ref 9 := (hd.2.2.2 2 5 (by decide)).trans x5
  replace k12 : M.2.1 12 = (10, 2) := (congrFun hd.2.1 12).trans k12
  replace f12 : M.2.2 12 0 = .ref 13 := (hd.2.2.2 12 0 (by decide)).trans f12
  replace g12 : M.2.2 12 1 = .ref 15 := (hd.2.2.2 12 1 (by decide)).trans g12
  replace k15 : M.2.1 15 = (20, 16) := (congrFun hd.2.1 15).trans k15
  replace p13 : PV M 13 (-9) 0 0 (fun _ => -1) .null := p13.frs (S := fun b => b = 2) (hd.toWd.toFrS rfl) (by decide) (by decide)
  replace x6 : M.2.2 2 6 = .ref 12 := (hd.2.2.2 2 6 (by decide)).trans x6
  replace k16 : M.2.1 16 = (8, 1) := (congrFun hd.2.1 16).trans k16
  replace t0 : M.2.2 16 0 = .int 0 := (hd.2.2.2 16 0 (by decide)).trans t0
  replace hF := hF.wd hd.toWd (by decide)
  replace hM := hd.1.trans hM
  have x7 : M.2.2 2 7 = .ref 16 := hd.2.2.1
  clear hd
  refine aw_ic0 83 dX11_init_83 ?_
  refine aw_istore1 84 dX11_init_84 rfl ?_
  refine aw_iload1 85 dX11_init_85 ?_
  refine aw_ic4 86 dX11_init_86 ?_
  refine aw_icmp_geN 87 109 (0) (4) dX11_init_87 (by decide) rfl rfl (by decide) (by decide) (fun h => absurd h (by decide)) (fun _ => ?_)
  refine aw_aload0 90 dX11_init_90 ?_
  refine aw_get 91 dX11_init_91 ckF_RX11_31_11 kX x3 ?_
  refine aw_iload1 94 dX11_init_94 ?_
  refine na_obj 95 4 (17) dX11_init_95 ckN_RX11_29 rfl hM (by decide) (by decide) (fun M hd => ?_)
  replace kX : M.2.1 2 = (11, 13) := ((hd.2.2.2 2 (by decide)).1).trans kX
  replace x8 : M.2.2 2 8 = .int 0 := (congrFun (hd.2.2.2 2 (by decide)).2 8).trans x8
  replace x9 : M.2.2 2 9 = .int 0 := (congrFun (hd.2.2.2 2 (by decide)).2 9).trans x9
  replace x10 : M.2.2 2 10 = .int 0 := (congrFun (hd.2.2.2 2 (by decide)).2 10).trans x10
  replace x11 : M.2.2 2 11 = .int 0 := (congrFun (hd.2.2.2 2 (by decide)).2 11).trans x11
  replace x12 : M.2.2 2 12 = .int 0 := (congrFun (hd.2.2.2 2 (by decide)).2 12).trans x12
  replace k3 : M.2.1 3 = (21, 12) := ((hd.2.2.2 3 (by decide)).1).trans k3
  replace x0 : M.2.2 2 0 = .ref 3 := (congrFun (hd.2.2.2 2 (by decide)).2 0).trans x0
  replace k4 : M.2.1 4 = (22, 6) := ((hd.2.2.2 4 (by decide)).1).trans k4
  replace x1 : M.2.2 2 1 = .ref 4 := (congrFun (hd.2.2.2 2 (by decide)).2 1).trans x1
  replace k5 : M.2.1 5 = (23, 9) := ((hd.2.2.2 5 (by decide)).1).trans k5
  replace x2 : M.2.2 2 2 = .ref 5 := (congrFun (hd.2.2.2 2 (by decide)).2 2).trans x2
  replace k6 : M.2.1 6 = (24, 4) := ((hd.2.2.2 6 (by decide)).1).trans k6
  replace x3 : M.2.2 2 3 = .ref 6 := (congrFun (hd.2.2.2 2 (by decide)).2 3).trans x3
  replace k7 : M.2.1 7 = (9, 1) := ((hd.2.2.2 7 (by decide)).1).trans k7
  replace f7 : M.2.2 7 0 = .ref 8 := (congrFun (hd.2.2.2 7 (by decide)).2 0).trans f7
  replace k8 : M.2.1 8 = (20, 32) := ((hd.2.2.2 8 (by decide)).1).trans k8
  replace x4 : M.2.2 2 4 = .ref 7 := (congrFun (hd.2.2.2 2 (by decide)).2 4).trans x4
  replace k9 : M.2.1 9 = (4, 6) := ((hd.2.2.2 9 (by decide)).1).trans k9
  replace f9 : M.2.2 9 0 = .ref 10 := (congrFun (hd.2.2.2 9 (by decide)).2 0).trans f9
  replace g9 : M.2.2 9 2 = .ref 11 := (congrFun (hd.2.2.2 9 (by decide)).2 2).trans g9
  replace k10 : M.2.1 10 = (20, 5) := ((hd.2.2.2 10 (by decide)).1).trans k10
  replace k11 : M.2.1 11 = (20, 60) := ((hd.2.2.2 11 (by decide)).1).trans k11
  replace x5 : M.2.2 2 5 = .ref 9 := (congrFun (hd.2.2.2 2 (by decide)).2 5).trans x5
  replace k12 : M.2.1 12 = (10, 2) := ((hd.2.2.2 12 (by decide)).1).trans k12
  replace f12 : M.2.2 12 0 = .ref 13 := (congrFun (hd.2.2.2 12 (by decide)).2 0).trans f12
  replace g12 : M.2.2 12 1 = .ref 15 := (congrFun (hd.2.2.2 12 (by decide)).2 1).trans g12
  replace k15 : M.2.1 15 = (20, 16) := ((hd.2.2.2 15 (by decide)).1).trans k15
  replace p13 : PV M 13 (-9) 0 0 (fun _ => -1) .null := p13.kp (hd.kp (S := fun _ => False) hM) (by rw [hM]; decide) (fun q => q) (fun q => q)
  replace x6 : M.2.2 2 6 = .ref 12 := (congrFun (hd.2.2.2 2 (by decide)).2 6).trans x6
  replace k16 : M.2.1 16 = (8, 1) := ((hd.2.2.2 16 (by decide)).1).trans k16
  replace t0 : M.2.2 16 0 = .int 0 := (congrFun (hd.2.2.2 16 (by decide)).2 0).trans t0
  replace x7 : M.2.2 2 7 = .ref 16 := (congrFun (hd.2.2.2 2 (by decide)).2 7).trans x7
  replace hF := hF.nw hd (by decide)
  have ks : M.2.1 17 = (5, 4) := hd.2.1
  have s1 : M.2.2 17 1 = .int 0 := by rw [hd.2.2.1]; rfl
  have s2 : M.2.2 17 2 = .int 0 := by rw [hd.2.2.1]; rfl
  have s3 : M.2.2 17 3 = .int 0 := by rw [hd.2.2.1]; rfl
  replace hM : M.1 = 18 := hd.1
  clear hd
  refine aw_dup 98 dX11_init_98 rfl ?_
  refine ap_in 99 dX11_init_99 (c_X5_init hM ks s1 s2 s3) ckI_RX11_63 cd_X5_init rfl rfl (Nat.le_of_ble_eq_true rfl) ⟨⟨by decide, by decide⟩, by decide, by decide⟩ (fun M hq => ?_)
  replace kX : M.2.1 2 = (11, 13) := ((hq.2.1 2 (by decide)).1).trans kX
  replace x8 : M.2.2 2 8 = .int 0 := (congrFun (hq.2.1 2 (by decide)).2 8).trans x8
  replace x9 : M.2.2 2 9 = .int 0 := (congrFun (hq.2.1 2 (by decide)).2 9).trans x9
  replace x10 : M.2.2 2 10 = .int 0 := (congrFun (hq.2.1 2 (by decide)).2 10).trans x10
  replace x11 : M.2.2 2 11 = .int 0 := (congrFun (hq.2.1 2 (by decide)).2 11).trans x11
  replace x12 : M.2.2 2 12 = .int 0 := (congrFun (hq.2.1 2 (by decide)).2 12).trans x12
  replace k3 : M.2.1 3 = (21, 12) := ((hq.2.1 3 (by decide)).1).trans k3
  replace x0 : M.2.2 2 0 = .ref 3 := (congrFun (hq.2.1 2 (by decide)).2 0).trans x0
  replace k4 : M.2.1 4 = (22, 6) := ((hq.2.1 4 (by decide)).1).trans k4
  replace x1 : M.2.2 2 1 = .ref 4 := (congrFun (hq.2.1 2 (by decide)).2 1).trans x1
  replace k5 : M.2.1 5 = (23, 9) := ((hq.2.1 5 (by decide)).1).trans k5
  replace x2 : M.2.2 2 2 = .ref 5 := (congrFun (hq.2.1 2 (by decide)).2 2).trans x2
  replace k6 : M.2.1 6 = (24, 4) := ((hq.2.1 6 (by decide)).1).trans k6
  replace x3 : M.2.2 2 3 = .ref 6 := (congrFun (hq.2.1 2 (by decide)).2 3).trans x3
  replace k7 : M.2.1 7 = (9, 1) := ((hq.2.1 7 (by decide)).1).trans k7
  replace f7 : M.2.2 7 0 = .ref 8 := (congrFun (hq.2.1 7 (by decide)).2 0).trans f7
  replace k8 : M.2.1 8 = (20, 32) := ((hq.2.1 8 (by decide)).1).trans k8
  replace x4 : M.2.2 2 4 = .ref 7 := (congrFun (hq.2.1 2 (by decide)).2 4).trans x4
  replace k9 : M.2.1 9 = (4, 6) := ((hq.2.1 9 (by decide)).1).trans k9
  replace f9 : M.2.2 9 0 = .ref 10 := (congrFun (hq.2.1 9 (by decide)).2 0).trans f9
  replace g9 : M.2.2 9 2 = .ref 11 := (congrFun (hq.2.1 9 (by decide)).2 2).trans g9
  replace k10 : M.2.1 10 = (20, 5) := ((hq.2.1 10 (by decide)).1).trans k10
  replace k11 : M.2.1 11 = (20, 60) := ((hq.2.1 11 (by decide)).1).trans k11
  replace x5 : M.2.2 2 5 = .ref 9 := (congrFun (hq.2.1 2 (by decide)).2 5).trans x5
  replace k12 : M.2.1 12 = (10, 2) := ((hq.2.1 12 (by decide)).1).trans k12
  replace f12 : M.2.2 12 0 = .ref 13 := (congrFun (hq.2.1 12 (by decide)).2 0).trans f12
  replace g12 : M.2.2 12 1 = .ref 15 := (congrFun (hq.2.1 12 (by decide)).2 1).trans g12
  replace k15 : M.2.1 15 = (20, 16) := ((hq.2.1 15 (by decide)).1).trans k15
  replace p13 : PV M 13 (-9) 0 0 (fun _ => -1) .null := p13.fa hq.2.1 (by decide)
  replace x6 : M.2.2 2 6 = .ref 12 := (congrFun (hq.2.1 2 (by decide)).2 6).trans x6
  replace k16 : M.2.1 16 = (8, 1) := ((hq.2.1 16 (by decide)).1).trans k16
  replace t0 : M.2.2 16 0 = .int 0 := (congrFun (hq.2.1 16 (by decide)).2 0).trans t0
  replace x7 : M.2.2 2 7 = .ref 16 := (congrFun (hq.2.1 2 (by decide)).2 7).trans x7
  replace hF := hF.trans hq.2.1 (by decide)
  have v17 : SV M 17 0 0 0 (fun _ => 0) := hq.2.2
  replace hM : M.1 = 19 := hq.1
  clear hq
  refine aa_st 102 (0) dX11_init_102 k6 (by decide) (by decide) v17.1 rfl (show 0 < 4 by omega) (by decide) (fun M hd => ?_)
  replace kX : M.2.1 2 = (11, 13) := (congrFun hd.2.1 2).trans kX
  replace x8 : M.2.2 2 8 = .int 0 := (hd.2.2.2 2 8 (by decide)).trans x8
  replace x9 : M.2.2 2 9 = .int 0 := (hd.2.2.2 2 9 (by decide)).trans x9
  replace x10 : M.2.2 2 10 = .int 0 := (hd.2.2.2 2 10 (by decide)).trans x10
  replace x11 : M.2.2 2 11 = .int 0 := (hd.2.2.2 2 11 (by decide)).trans x11
  replace x12 : M.2.2 2 12 = .int 0 := (hd.2.2.2 2 12 (by decide)).trans x12
  replace k3 : M.2.1 3 = (21, 12) := (congrFun hd.2.1 3).trans k3
  replace x0 : M.2.2 2 0 = .ref 3 := (hd.2.2.2 2 0 (by decide)).trans x0
  replace k4 : M.2.1 4 = (22, 6) := (congrFun hd.2.1 4).trans k4
  replace x1 : M.2.2 2 1 = .ref 4 := (hd.2.2.2 2 1 (by decide)).trans x1
  replace k5 : M.2.1 5 = (23, 9) := (congrFun hd.2.1 5).trans k5
  replace x2 : M.2.2 2 2 = .ref 5 := (hd.2.2.2 2 2 (by decide)).trans x2
  replace k6 : M.2.1 6 = (24, 4) := (congrFun hd.2.1 6).trans k6
  replace x3 : M.2.2 2 3 = .ref 6 := (hd.2.2.2 2 3 (by decide)).trans x3
  replace k7 : M.2.1 7 = (9, 1) := (congrFun hd.2.1 7).trans k7
  replace f7 : M.2.2 7 0 = .ref 8 := (hd.2.2.2 7 0 (by decide)).trans f7
  replace k8 : M.2.1 8 = (20, 32) := (congrFun hd.2.1 8).trans k8
  replace x4 : M.2.2 2 4 = .ref 7 := (hd.2.2.2 2 4 (by decide)).trans x4
  replace k9 : M.2.1 9 = (4, 6) := (congrFun hd.2.1 9).trans k9
  replace f9 : M.2.2 9 0 = .ref 10 := (hd.2.2.2 9 0 (by decide)).trans f9
  replace g9 : M.2.2 9 2 = .ref 11 := (hd.2.2.2 9 2 (by decide)).trans g9
  replace k10 : M.2.1 10 = (20, 5) := (congrFun hd.2.1 10).trans k10
  replace k11 : M.2.1 11 = (20, 60) := (congrFun hd.2.1 11).trans k11
  replace x5 : M.2.2 2 5 = .ref 9 := (hd.2.2.2 2 5 (by decide)).trans x5
  replace k12 : M.2.1 12 = (10, 2) := (congrFun hd.2.1 12).trans k12
  replace f12 : M.2.2 12 0 = .ref 13 := (hd.2.2.2 12 0 (by decide)).trans f12
  replace g12 : M.2.2 12 1 = .ref 15 := (hd.2.2.2 12 1 (by decide)).trans g12
  replace k15 : M.2.1 15 = (20, 16) := (congrFun hd.2.1 15).trans k15
  replace p13 : PV M 13 (-9) 0 0 (fun _ => -1) .null := p13.frs (S := fun b => b = 6) (hd.toWd.toFrS rfl) (by decide) (by decide)
  replace x6 : M.2.2 2 6 = .ref 12 := (hd.2.2.2 2 6 (by decide)).trans x6
  replace k16 : M.2.1 16 = (8, 1) := (congrFun hd.2.1 16).trans k16
  replace t0 : M.2.2 16 0 = .int 0 := (hd.2.2.2 16 0 (by decide)).trans t0
  replace x7 : M.2.2 2 7 = .ref 16 := (hd.2.2.2 2 7 (by decide)).trans x7
  replace v17 : SV M 17 0 0 0 (fun _ => 0) := v17.frs (S := fun b => b = 6) (hd.toWd.toFrS rfl) (by decide) (by decide)
  replace hF := hF.wd hd.toWd (by decide)
  replace hM := hd.1.trans hM
  have y0 : M.2.2 6 0 = .ref 17 := hd.2.2.1
  clear hd
  refine aw_iinc1 103 (nI 1) dX11_init_103 (by decide) rfl ?_
  refine aw_goto 106 85 dX11_init_106 (by decide) ?_
  refine aw_iload1 85 dX11_init_85 ?_
  refine aw_ic4 86 dX11_init_86 ?_
  refine aw_icmp_geN 87 109 (1) (4) dX11_init_87 (by decide) rfl rfl (by decide) (by decide) (fun h => absurd h (by decide)) (fun _ => ?_)
  refine aw_aload0 90 dX11_init_90 ?_
  refine aw_get 91 dX11_init_91 ckF_RX11_31_11 kX x3 ?_
  refine aw_iload1 94 dX11_init_94 ?_
  refine na_obj 95 4 (19) dX11_init_95 ckN_RX11_29 rfl hM (by decide) (by decide) (fun M hd => ?_)
  replace kX : M.2.1 2 = (11, 13) := ((hd.2.2.2 2 (by decide)).1).trans kX
  replace x8 : M.2.2 2 8 = .int 0 := (congrFun (hd.2.2.2 2 (by decide)).2 8).trans x8
  replace x9 : M.2.2 2 9 = .int 0 := (congrFun (hd.2.2.2 2 (by decide)).2 9).trans x9
  replace x10 : M.2.2 2 10 = .int 0 := (congrFun (hd.2.2.2 2 (by decide)).2 10).trans x10
  replace x11 : M.2.2 2 11 = .int 0 := (congrFun (hd.2.2.2 2 (by decide)).2 11).trans x11
  replace x12 : M.2.2 2 12 = .int 0 := (congrFun (hd.2.2.2 2 (by decide)).2 12).trans x12
  replace k3 : M.2.1 3 = (21, 12) := ((hd.2.2.2 3 (by decide)).1).trans k3
  replace x0 : M.2.2 2 0 = .ref 3 := (congrFun (hd.2.2.2 2 (by decide)).2 0).trans x0
  replace k4 : M.2.1 4 = (22, 6) := ((hd.2.2.2 4 (by decide)).1).trans k4
  replace x1 : M.2.2 2 1 = .ref 4 := (congrFun (hd.2.2.2 2 (by decide)).2 1).trans x1
  replace k5 : M.2.1 5 = (23, 9) := ((hd.2.2.2 5 (by decide)).1).trans k5
  replace x2 : M.2.2 2 2 = .ref 5 := (congrFun (hd.2.2.2 2 (by decide)).2 2).trans x2
  replace k6 : M.2.1 6 = (24, 4) := ((hd.2.2.2 6 (by decide)).1).trans k6
  replace x3 : M.2.2 2 3 = .ref 6 := (congrFun (hd.2.2.2 2 (by decide)).2 3).trans x3
  replace k7 : M.2.1 7 = (9, 1) := ((hd.2.2.2 7 (by decide)).1).trans k7
  replace f7 : M.2.2 7 0 = .ref 8 := (congrFun (hd.2.2.2 7 (by decide)).2 0).trans f7
  replace k8 : M.2.1 8 = (20, 32) := ((hd.2.2.2 8 (by decide)).1).trans k8
  replace x4 : M.2.2 2 4 = .ref 7 := (congrFun (hd.2.2.2 2 (by decide)).2 4).trans x4
  replace k9 : M.2.1 9 = (4, 6) := ((hd.2.2.2 9 (by decide)).1).trans k9
  replace f9 : M.2.2 9 0 = .ref 10 := (congrFun (hd.2.2.2 9 (by decide)).2 0).trans f9
  replace g9 : M.2.2 9 2 = .ref 11 := (congrFun (hd.2.2.2 9 (by decide)).2 2).trans g9
  replace k10 : M.2.1 10 = (20, 5) := ((hd.2.2.2 10 (by decide)).1).trans k10
  replace k11 : M.2.1 11 = (20, 60) := ((hd.2.2.2 11 (by decide)).1).trans k11
  replace x5 : M.2.2 2 5 = .ref 9 := (congrFun (hd.2.2.2 2 (by decide)).2 5).trans x5
  replace k12 : M.2.1 12 = (10, 2) := ((hd.2.2.2 12 (by decide)).1).trans k12
  replace f12 : M.2.2 12 0 = .ref 13 := (congrFun (hd.2.2.2 12 (by decide)).2 0).trans f12
  replace g12 : M.2.2 12 1 = .ref 15 := (congrFun (hd.2.2.2 12 (by decide)).2 1).trans g12
  replace k15 : M.2.1 15 = (20, 16) := ((hd.2.2.2 15 (by decide)).1).trans k15
  replace p13 : PV M 13 (-9) 0 0 (fun _ => -1) .null := p13.kp (hd.kp (S := fun _ => False) hM) (by rw [hM]; decide) (fun q => q) (fun q => q)
  replace x6 : M.2.2 2 6 = .ref 12 := (congrFun (hd.2.2.2 2 (by decide)).2 6).trans x6
  replace k16 : M.2.1 16 = (8, 1) := ((hd.2.2.2 16 (by decide)).1).trans k16
  replace t0 : M.2.2 16 0 = .int 0 := (congrFun (hd.2.2.2 16 (by decide)).2 0).trans t0
  replace x7 : M.2.2 2 7 = .ref 16 := (congrFun (hd.2.2.2 2 (by decide)).2 7).trans x7
  replace v17 : SV M 17 0 0 0 (fun _ => 0) := v17.kp (hd.kp (S := fun _ => False) hM) (by rw [hM]; decide) (fun q => q) (fun q => q)
  replace y0 : M.2.2 6 0 = .ref 17 := (congrFun (hd.2.2.2 6 (by decide)).2 0).trans y0
  replace hF := hF.nw hd (by decide)
  have ks : M.2.1 19 = (5, 4) := hd.2.1
  have s1 : M.2.2 19 1 = .int 0 := by rw [hd.2.2.1]; rfl
  have s2 : M.2.2 19 2 = .int 0 := by rw [hd.2.2.1]; rfl
  have s3 : M.2.2 19 3 = .int 0 := by rw [hd.2.2.1]; rfl
  replace hM : M.1 = 20 := hd.1
  clear hd
  refine aw_dup 98 dX11_init_98 rfl ?_
  refine ap_in 99 dX11_init_99 (c_X5_init hM ks s1 s2 s3) ckI_RX11_63 cd_X5_init rfl rfl (Nat.le_of_ble_eq_true rfl) ⟨⟨by decide, by decide⟩, by decide, by decide⟩ (fun M hq => ?_)
  replace kX : M.2.1 2 = (11, 13) := ((hq.2.1 2 (by decide)).1).trans kX
  replace x8 : M.2.2 2 8 = .int 0 := (congrFun (hq.2.1 2 (by decide)).2 8).trans x8
  replace x9 : M.2.2 2 9 = .int 0 := (congrFun (hq.2.1 2 (by decide)).2 9).trans x9
  replace x10 : M.2.2 2 10 = .int 0 := (congrFun (hq.2.1 2 (by decide)).2 10).trans x10
  replace x11 : M.2.2 2 11 = .int 0 := (congrFun (hq.2.1 2 (by decide)).2 11).trans x11
  replace x12 : M.2.2 2 12 = .int 0 := (congrFun (hq.2.1 2 (by decide)).2 12).trans x12
  replace k3 : M.2.1 3 = (21, 12) := ((hq.2.1 3 (by decide)).1).trans k3
  replace x0 : M.2.2 2 0 = .ref 3 := (congrFun (hq.2.1 2 (by decide)).2 0).trans x0
  replace k4 : M.2.1 4 = (22, 6) := ((hq.2.1 4 (by decide)).1).trans k4
  replace x1 : M.2.2 2 1 = .ref 4 := (congrFun (hq.2.1 2 (by decide)).2 1).trans x1
  replace k5 : M.2.1 5 = (23, 9) := ((hq.2.1 5 (by decide)).1).trans k5
  replace x2 : M.2.2 2 2 = .ref 5 := (congrFun (hq.2.1 2 (by decide)).2 2).trans x2
  replace k6 : M.2.1 6 = (24, 4) := ((hq.2.1 6 (by decide)).1).trans k6
  replace x3 : M.2.2 2 3 = .ref 6 := (congrFun (hq.2.1 2 (by decide)).2 3).trans x3
  replace k7 : M.2.1 7 = (9, 1) := ((hq.2.1 7 (by decide)).1).trans k7
  replace f7 : M.2.2 7 0 = .ref 8 := (congrFun (hq.2.1 7 (by decide)).2 0).trans f7
  replace k8 : M.2.1 8 = (20, 32) := ((hq.2.1 8 (by decide)).1).trans k8
  replace x4 : M.2.2 2 4 = .ref 7 := (congrFun (hq.2.1 2 (by decide)).2 4).trans x4
  replace k9 : M.2.1 9 = (4, 6) := ((hq.2.1 9 (by decide)).1).trans k9
  replace f9 : M.2.2 9 0 = .ref 10 := (congrFun (hq.2.1 9 (by decide)).2 0).trans f9
  replace g9 : M.2.2 9 2 = .ref 11 := (congrFun (hq.2.1 9 (by decide)).2 2).trans g9
  replace k10 : M.2.1 10 = (20, 5) := ((hq.2.1 10 (by decide)).1).trans k10
  replace k11 : M.2.1 11 = (20, 60) := ((hq.2.1 11 (by decide)).1).trans k11
  replace x5 : M.2.2 2 5 = .ref 9 := (congrFun (hq.2.1 2 (by decide)).2 5).trans x5
  replace k12 : M.2.1 12 = (10, 2) := ((hq.2.1 12 (by decide)).1).trans k12
  replace f12 : M.2.2 12 0 = .ref 13 := (congrFun (hq.2.1 12 (by decide)).2 0).trans f12
  replace g12 : M.2.2 12 1 = .ref 15 := (congrFun (hq.2.1 12 (by decide)).2 1).trans g12
  replace k15 : M.2.1 15 = (20, 16) := ((hq.2.1 15 (by decide)).1).trans k15
  replace p13 : PV M 13 (-9) 0 0 (fun _ => -1) .null := p13.fa hq.2.1 (by decide)
  replace x6 : M.2.2 2 6 = .ref 12 := (congrFun (hq.2.1 2 (by decide)).2 6).trans x6
  replace k16 : M.2.1 16 = (8, 1) := ((hq.2.1 16 (by decide)).1).trans k16
  replace t0 : M.2.2 16 0 = .int 0 := (congrFun (hq.2.1 16 (by decide)).2 0).trans t0
  replace x7 : M.2.2 2 7 = .ref 16 := (congrFun (hq.2.1 2 (by decide)).2 7).trans x7
  replace v17 : SV M 17 0 0 0 (fun _ => 0) := v17.fa hq.2.1 (by decide)
  replace y0 : M.2.2 6 0 = .ref 17 := (congrFun (hq.2.1 6 (by decide)).2 0).trans y0
  replace hF := hF.trans hq.2.1 (by decide)
  have v19 : SV M 19 0 0 0 (fun _ => 0) := hq.2.2
  replace hM : M.1 = 21 := hq.1
  clear hq
  refine aa_st 102 (1) dX11_init_102 k6 (by decide) (by decide) v19.1 rfl (show 1 < 4 by omega) (by decide) (fun M hd => ?_)
  replace kX : M.2.1 2 = (11, 13) := (congrFun hd.2.1 2).trans kX
  replace x8 : M.2.2 2 8 = .int 0 := (hd.2.2.2 2 8 (by decide)).trans x8
  replace x9 : M.2.2 2 9 = .int 0 := (hd.2.2.2 2 9 (by decide)).trans x9
  replace x10 : M.2.2 2 10 = .int 0 := (hd.2.2.2 2 10 (by decide)).trans x10
  replace x11 : M.2.2 2 11 = .int 0 := (hd.2.2.2 2 11 (by decide)).trans x11
  replace x12 : M.2.2 2 12 = .int 0 := (hd.2.2.2 2 12 (by decide)).trans x12
  replace k3 : M.2.1 3 = (21, 12) := (congrFun hd.2.1 3).trans k3
  replace x0 : M.2.2 2 0 = .ref 3 := (hd.2.2.2 2 0 (by decide)).trans x0
  replace k4 : M.2.1 4 = (22, 6) := (congrFun hd.2.1 4).trans k4
  replace x1 : M.2.2 2 1 = .ref 4 := (hd.2.2.2 2 1 (by decide)).trans x1
  replace k5 : M.2.1 5 = (23, 9) := (congrFun hd.2.1 5).trans k5
  replace x2 : M.2.2 2 2 = .ref 5 := (hd.2.2.2 2 2 (by decide)).trans x2
  replace k6 : M.2.1 6 = (24, 4) := (congrFun hd.2.1 6).trans k6
  replace x3 : M.2.2 2 3 = .ref 6 := (hd.2.2.2 2 3 (by decide)).trans x3
  replace k7 : M.2.1 7 = (9, 1) := (congrFun hd.2.1 7).trans k7
  replace f7 : M.2.2 7 0 = .ref 8 := (hd.2.2.2 7 0 (by decide)).trans f7
  replace k8 : M.2.1 8 = (20, 32) := (congrFun hd.2.1 8).trans k8
  replace x4 : M.2.2 2 4 = .ref 7 := (hd.2.2.2 2 4 (by decide)).trans x4
  replace k9 : M.2.1 9 = (4, 6) := (congrFun hd.2.1 9).trans k9
  replace f9 : M.2.2 9 0 = .ref 10 := (hd.2.2.2 9 0 (by decide)).trans f9
  replace g9 : M.2.2 9 2 = .ref 11 := (hd.2.2.2 9 2 (by decide)).trans g9
  replace k10 : M.2.1 10 = (20, 5) := (congrFun hd.2.1 10).trans k10
  replace k11 : M.2.1 11 = (20, 60) := (congrFun hd.2.1 11).trans k11
  replace x5 : M.2.2 2 5 = .ref 9 := (hd.2.2.2 2 5 (by decide)).trans x5
  replace k12 : M.2.1 12 = (10, 2) := (congrFun hd.2.1 12).trans k12
  replace f12 : M.2.2 12 0 = .ref 13 := (hd.2.2.2 12 0 (by decide)).trans f12
  replace g12 : M.2.2 12 1 = .ref 15 := (hd.2.2.2 12 1 (by decide)).trans g12
  replace k15 : M.2.1 15 = (20, 16) := (congrFun hd.2.1 15).trans k15
  replace p13 : PV M 13 (-9) 0 0 (fun _ => -1) .null := p13.frs (S := fun b => b = 6) (hd.toWd.toFrS rfl) (by decide) (by decide)
  replace x6 : M.2.2 2 6 = .ref 12 := (hd.2.2.2 2 6 (by decide)).trans x6
  replace k16 : M.2.1 16 = (8, 1) := (congrFun hd.2.1 16).trans k16
  replace t0 : M.2.2 16 0 = .int 0 := (hd.2.2.2 16 0 (by decide)).trans t0
  replace x7 : M.2.2 2 7 = .ref 16 := (hd.2.2.2 2 7 (by decide)).trans x7
  replace v17 : SV M 17 0 0 0 (fun _ => 0) := v17.frs (S := fun b => b = 6) (hd.toWd.toFrS rfl) (by decide) (by decide)
  replace y0 : M.2.2 6 0 = .ref 17 := (hd.2.2.2 6 0 (by decide)).trans y0
  replace v19 : SV M 19 0 0 0 (fun _ => 0) := v19.frs (S := fun b => b = 6) (hd.toWd.toFrS rfl) (by decide) (by decide)
  replace hF := hF.wd hd.toWd (by decide)
  replace hM := hd.1.trans hM
  have y1 : M.2.2 6 1 = .ref 19 := hd.2.2.1
  clear hd
  refine aw_iinc1 103 (nI 2) dX11_init_103 (by decide) rfl ?_
  refine aw_goto 106 85 dX11_init_106 (by decide) ?_
  refine aw_iload1 85 dX11_init_85 ?_
  refine aw_ic4 86 dX11_init_86 ?_
  refine aw_icmp_geN 87 109 (2) (4) dX11_init_87 (by decide) rfl rfl (by decide) (by decide) (fun h => absurd h (by decide)) (fun _ => ?_)
  refine aw_aload0 90 dX11_init_90 ?_
  refine aw_get 91 dX11_init_91 ckF_RX11_31_11 kX x3 ?_
  refine aw_iload1 94 dX11_init_94 ?_
  refine na_obj 95 4 (21) dX11_init_95 ckN_RX11_29 rfl hM (by decide) (by decide) (fun M hd => ?_)
  replace kX : M.2.1 2 = (11, 13) := ((hd.2.2.2 2 (by decide)).1).trans kX
  replace x8 : M.2.2 2 8 = .int 0 := (congrFun (hd.2.2.2 2 (by decide)).2 8).trans x8
  replace x9 : M.2.2 2 9 = .int 0 := (congrFun (hd.2.2.2 2 (by decide)).2 9).trans x9
  replace x10 : M.2.2 2 10 = .int 0 := (congrFun (hd.2.2.2 2 (by decide)).2 10).trans x10
  replace x11 : M.2.2 2 11 = .int 0 := (congrFun (hd.2.2.2 2 (by decide)).2 11).trans x11
  replace x12 : M.2.2 2 12 = .int 0 := (congrFun (hd.2.2.2 2 (by decide)).2 12).trans x12
  replace k3 : M.2.1 3 = (21, 12) := ((hd.2.2.2 3 (by decide)).1).trans k3
  replace x0 : M.2.2 2 0 = .ref 3 := (congrFun (hd.2.2.2 2 (by decide)).2 0).trans x0
  replace k4 : M.2.1 4 = (22, 6) := ((hd.2.2.2 4 (by decide)).1).trans k4
  replace x1 : M.2.2 2 1 = .ref 4 := (congrFun (hd.2.2.2 2 (by decide)).2 1).trans x1
  replace k5 : M.2.1 5 = (23, 9) := ((hd.2.2.2 5 (by decide)).1).trans k5
  replace x2 : M.2.2 2 2 = .ref 5 := (congrFun (hd.2.2.2 2 (by decide)).2 2).trans x2
  replace k6 : M.2.1 6 = (24, 4) := ((hd.2.2.2 6 (by decide)).1).trans k6
  replace x3 : M.2.2 2 3 = .ref 6 := (congrFun (hd.2.2.2 2 (by decide)).2 3).trans x3
  replace k7 : M.2.1 7 = (9, 1) := ((hd.2.2.2 7 (by decide)).1).trans k7
  replace f7 : M.2.2 7 0 = .ref 8 := (congrFun (hd.2.2.2 7 (by decide)).2 0).trans f7
  replace k8 : M.2.1 8 = (20, 32) := ((hd.2.2.2 8 (by decide)).1).trans k8
  replace x4 : M.2.2 2 4 = .ref 7 := (congrFun (hd.2.2.2 2 (by decide)).2 4).trans x4
  replace k9 : M.2.1 9 = (4, 6) := ((hd.2.2.2 9 (by decide)).1).trans k9
  replace f9 : M.2.2 9 0 = .ref 10 := (congrFun (hd.2.2.2 9 (by decide)).2 0).trans f9
  replace g9 : M.2.2 9 2 = .ref 11 := (congrFun (hd.2.2.2 9 (by decide)).2 2).trans g9
  replace k10 : M.2.1 10 = (20, 5) := ((hd.2.2.2 10 (by decide)).1).trans k10
  replace k11 : M.2.1 11 = (20, 60) := ((hd.2.2.2 11 (by decide)).1).trans k11
  replace x5 : M.2.2 2 5 = .ref 9 := (congrFun (hd.2.2.2 2 (by decide)).2 5).trans x5
  replace k12 : M.2.1 12 = (10, 2) := ((hd.2.2.2 12 (by decide)).1).trans k12
  replace f12 : M.2.2 12 0 = .ref 13 := (congrFun (hd.2.2.2 12 (by decide)).2 0).trans f12
  replace g12 : M.2.2 12 1 = .ref 15 := (congrFun (hd.2.2.2 12 (by decide)).2 1).trans g12
  replace k15 : M.2.1 15 = (20, 16) := ((hd.2.2.2 15 (by decide)).1).trans k15
  replace p13 : PV M 13 (-9) 0 0 (fun _ => -1) .null := p13.kp (hd.kp (S := fun _ => False) hM) (by rw [hM]; decide) (fun q => q) (fun q => q)
  replace x6 : M.2.2 2 6 = .ref 12 := (congrFun (hd.2.2.2 2 (by decide)).2 6).trans x6
  replace k16 : M.2.1 16 = (8, 1) := ((hd.2.2.2 16 (by decide)).1).trans k16
  replace t0 : M.2.2 16 0 = .int 0 := (congrFun (hd.2.2.2 16 (by decide)).2 0).trans t0
  replace x7 : M.2.2 2 7 = .ref 16 := (congrFun (hd.2.2.2 2 (by decide)).2 7).trans x7
  replace v17 : SV M 17 0 0 0 (fun _ => 0) := v17.kp (hd.kp (S := fun _ => False) hM) (by rw [hM]; decide) (fun q => q) (fun q => q)
  replace y0 : M.2.2 6 0 = .ref 17 := (congrFun (hd.2.2.2 6 (by decide)).2 0).trans y0
  replace v19 : SV M 19 0 0 0 (fun _ => 0) := v19.kp (hd.kp (S := fun _ => False) hM) (by rw [hM]; decide) (fun q => q) (fun q => q)
  replace y1 : M.2.2 6 1 = .ref 19 := (congrFun (hd.2.2.2 6 (by decide)).2 1).trans y1
  replace hF := hF.nw hd (by decide)
  have ks : M.2.1 21 = (5, 4) := hd.2.1
  have s1 : M.2.2 21 1 = .int 0 := by rw [hd.2.2.1]; rfl
  have s2 : M.2.2 21 2 = .int 0 := by rw [hd.2.2.1]; rfl
  have s3 : M.2.2 21 3 = .int 0 := by rw [hd.2.2.1]; rfl
  replace hM : M.1 = 22 := hd.1
  clear hd
  refine aw_dup 98 dX11_init_98 rfl ?_
  refine ap_in 99 dX11_init_99 (c_X5_init hM ks s1 s2 s3) ckI_RX11_63 cd_X5_init rfl rfl (Nat.le_of_ble_eq_true rfl) ⟨⟨by decide, by decide⟩, by decide, by decide⟩ (fun M hq => ?_)
  replace kX : M.2.1 2 = (11, 13) := ((hq.2.1 2 (by decide)).1).trans kX
  replace x8 : M.2.2 2 8 = .int 0 := (congrFun (hq.2.1 2 (by decide)).2 8).trans x8
  replace x9 : M.2.2 2 9 = .int 0 := (congrFun (hq.2.1 2 (by decide)).2 9).trans x9
  replace x10 : M.2.2 2 10 = .int 0 := (congrFun (hq.2.1 2 (by decide)).2 10).trans x10
  replace x11 : M.2.2 2 11 = .int 0 := (congrFun (hq.2.1 2 (by decide)).2 11).trans x11
  replace x12 : M.2.2 2 12 = .int 0 := (congrFun (hq.2.1 2 (by decide)).2 12).trans x12
  replace k3 : M.2.1 3 = (21, 12) := ((hq.2.1 3 (by decide)).1).trans k3
  replace x0 : M.2.2 2 0 = .ref 3 := (congrFun (hq.2.1 2 (by decide)).2 0).trans x0
  replace k4 : M.2.1 4 = (22, 6) := ((hq.2.1 4 (by decide)).1).trans k4
  replace x1 : M.2.2 2 1 = .ref 4 := (congrFun (hq.2.1 2 (by decide)).2 1).trans x1
  replace k5 : M.2.1 5 = (23, 9) := ((hq.2.1 5 (by decide)).1).trans k5
  replace x2 : M.2.2 2 2 = .ref 5 := (congrFun (hq.2.1 2 (by decide)).2 2).trans x2
  replace k6 : M.2.1 6 = (24, 4) := ((hq.2.1 6 (by decide)).1).trans k6
  replace x3 : M.2.2 2 3 = .ref 6 := (congrFun (hq.2.1 2 (by decide)).2 3).trans x3
  replace k7 : M.2.1 7 = (9, 1) := ((hq.2.1 7 (by decide)).1).trans k7
  replace f7 : M.2.2 7 0 = .ref 8 := (congrFun (hq.2.1 7 (by decide)).2 0).trans f7
  replace k8 : M.2.1 8 = (20, 32) := ((hq.2.1 8 (by decide)).1).trans k8
  replace x4 : M.2.2 2 4 = .ref 7 := (congrFun (hq.2.1 2 (by decide)).2 4).trans x4
  replace k9 : M.2.1 9 = (4, 6) := ((hq.2.1 9 (by decide)).1).trans k9
  replace f9 : M.2.2 9 0 = .ref 10 := (congrFun (hq.2.1 9 (by decide)).2 0).trans f9
  replace g9 : M.2.2 9 2 = .ref 11 := (congrFun (hq.2.1 9 (by decide)).2 2).trans g9
  replace k10 : M.2.1 10 = (20, 5) := ((hq.2.1 10 (by decide)).1).trans k10
  replace k11 : M.2.1 11 = (20, 60) := ((hq.2.1 11 (by decide)).1).trans k11
  replace x5 : M.2.2 2 5 = .ref 9 := (congrFun (hq.2.1 2 (by decide)).2 5).trans x5
  replace k12 : M.2.1 12 = (10, 2) := ((hq.2.1 12 (by decide)).1).trans k12
  replace f12 : M.2.2 12 0 = .ref 13 := (congrFun (hq.2.1 12 (by decide)).2 0).trans f12
  replace g12 : M.2.2 12 1 = .ref 15 := (congrFun (hq.2.1 12 (by decide)).2 1).trans g12
  replace k15 : M.2.1 15 = (20, 16) := ((hq.2.1 15 (by decide)).1).trans k15
  replace p13 : PV M 13 (-9) 0 0 (fun _ => -1) .null := p13.fa hq.2.1 (by decide)
  replace x6 : M.2.2 2 6 = .ref 12 := (congrFun (hq.2.1 2 (by decide)).2 6).trans x6
  replace k16 : M.2.1 16 = (8, 1) := ((hq.2.1 16 (by decide)).1).trans k16
  replace t0 : M.2.2 16 0 = .int 0 := (congrFun (hq.2.1 16 (by decide)).2 0).trans t0
  replace x7 : M.2.2 2 7 = .ref 16 := (congrFun (hq.2.1 2 (by decide)).2 7).trans x7
  replace v17 : SV M 17 0 0 0 (fun _ => 0) := v17.fa hq.2.1 (by decide)
  replace y0 : M.2.2 6 0 = .ref 17 := (congrFun (hq.2.1 6 (by decide)).2 0).trans y0
  replace v19 : SV M 19 0 0 0 (fun _ => 0) := v19.fa hq.2.1 (by decide)
  replace y1 : M.2.2 6 1 = .ref 19 := (congrFun (hq.2.1 6 (by decide)).2 1).trans y1
  replace hF := hF.trans hq.2.1 (by decide)
  have v21 : SV M 21 0 0 0 (fun _ => 0) := hq.2.2
  replace hM : M.1 = 23 := hq.1
  clear hq
  refine aa_st 102 (2) dX11_init_102 k6 (by decide) (by decide) v21.1 rfl (show 2 < 4 by omega) (by decide) (fun M hd => ?_)
  replace kX : M.2.1 2 = (11, 13) := (congrFun hd.2.1 2).trans kX
  replace x8 : M.2.2 2 8 = .int 0 := (hd.2.2.2 2 8 (by decide)).trans x8
  replace x9 : M.2.2 2 9 = .int 0 := (hd.2.2.2 2 9 (by decide)).trans x9
  replace x10 : M.2.2 2 10 = .int 0 := (hd.2.2.2 2 10 (by decide)).trans x10
  replace x11 : M.2.2 2 11 = .int 0 := (hd.2.2.2 2 11 (by decide)).trans x11
  replace x12 : M.2.2 2 12 = .int 0 := (hd.2.2.2 2 12 (by decide)).trans x12
  replace k3 : M.2.1 3 = (21, 12) := (congrFun hd.2.1 3).trans k3
  replace x0 : M.2.2 2 0 = .ref 3 := (hd.2.2.2 2 0 (by decide)).trans x0
  replace k4 : M.2.1 4 = (22, 6) := (congrFun hd.2.1 4).trans k4
  replace x1 : M.2.2 2 1 = .ref 4 := (hd.2.2.2 2 1 (by decide)).trans x1
  replace k5 : M.2.1 5 = (23, 9) := (congrFun hd.2.1 5).trans k5
  replace x2 : M.2.2 2 2 = .ref 5 := (hd.2.2.2 2 2 (by decide)).trans x2
  replace k6 : M.2.1 6 = (24, 4) := (congrFun hd.2.1 6).trans k6
  replace x3 : M.2.2 2 3 = .ref 6 := (hd.2.2.2 2 3 (by decide)).trans x3
  replace k7 : M.2.1 7 = (9, 1) := (congrFun hd.2.1 7).trans k7
  replace f7 : M.2.2 7 0 = .ref 8 := (hd.2.2.2 7 0 (by decide)).trans f7
  replace k8 : M.2.1 8 = (20, 32) := (congrFun hd.2.1 8).trans k8
  replace x4 : M.2.2 2 4 = .ref 7 := (hd.2.2.2 2 4 (by decide)).trans x4
  replace k9 : M.2.1 9 = (4, 6) := (congrFun hd.2.1 9).trans k9
  replace f9 : M.2.2 9 0 = .ref 10 := (hd.2.2.2 9 0 (by decide)).trans f9
  replace g9 : M.2.2 9 2 = .ref 11 := (hd.2.2.2 9 2 (by decide)).trans g9
  replace k10 : M.2.1 10 = (20, 5) := (congrFun hd.2.1 10).trans k10
  replace k11 : M.2.1 11 = (20, 60) := (congrFun hd.2.1 11).trans k11
  replace x5 : M.2.2 2 5 = .ref 9 := (hd.2.2.2 2 5 (by decide)).trans x5
  replace k12 : M.2.1 12 = (10, 2) := (congrFun hd.2.1 12).trans k12
  replace f12 : M.2.2 12 0 = .ref 13 := (hd.2.2.2 12 0 (by decide)).trans f12
  replace g12 : M.2.2 12 1 = .ref 15 := (hd.2.2.2 12 1 (by decide)).trans g12
  replace k15 : M.2.1 15 = (20, 16) := (congrFun hd.2.1 15).trans k15
  replace p13 : PV M 13 (-9) 0 0 (fun _ => -1) .null := p13.frs (S := fun b => b = 6) (hd.toWd.toFrS rfl) (by decide) (by decide)
  replace x6 : M.2.2 2 6 = .ref 12 := (hd.2.2.2 2 6 (by decide)).trans x6
  replace k16 : M.2.1 16 = (8, 1) := (congrFun hd.2.1 16).trans k16
  replace t0 : M.2.2 16 0 = .int 0 := (hd.2.2.2 16 0 (by decide)).trans t0
  replace x7 : M.2.2 2 7 = .ref 16 := (hd.2.2.2 2 7 (by decide)).trans x7
  replace v17 : SV M 17 0 0 0 (fun _ => 0) := v17.frs (S := fun b => b = 6) (hd.toWd.toFrS rfl) (by decide) (by decide)
  replace y0 : M.2.2 6 0 = .ref 17 := (hd.2.2.2 6 0 (by decide)).trans y0
  replace v19 : SV M 19 0 0 0 (fun _ => 0) := v19.frs (S := fun b => b = 6) (hd.toWd.toFrS rfl) (by decide) (by decide)
  replace y1 : M.2.2 6 1 = .ref 19 := (hd.2.2.2 6 1 (by decide)).trans y1
  replace v21 : SV M 21 0 0 0 (fun _ => 0) := v21.frs (S := fun b => b = 6) (hd.toWd.toFrS rfl) (by decide) (by decide)
  replace hF := hF.wd hd.toWd (by decide)
  replace hM := hd.1.trans hM
  have y2 : M.2.2 6 2 = .ref 21 := hd.2.2.1
  clear hd
  refine aw_iinc1 103 (nI 3) dX11_init_103 (by decide) rfl ?_
  refine aw_goto 106 85 dX11_init_106 (by decide) ?_
  refine aw_iload1 85 dX11_init_85 ?_
  refine aw_ic4 86 dX11_init_86 ?_
  refine aw_icmp_geN 87 109 (3) (4) dX11_init_87 (by decide) rfl rfl (by decide) (by decide) (fun h => absurd h (by decide)) (fun _ => ?_)
  refine aw_aload0 90 dX11_init_90 ?_
  refine aw_get 91 dX11_init_91 ckF_RX11_31_11 kX x3 ?_
  refine aw_iload1 94 dX11_init_94 ?_
  refine na_obj 95 4 (23) dX11_init_95 ckN_RX11_29 rfl hM (by decide) (by decide) (fun M hd => ?_)
  replace kX : M.2.1 2 = (11, 13) := ((hd.2.2.2 2 (by decide)).1).trans kX
  replace x8 : M.2.2 2 8 = .int 0 := (congrFun (hd.2.2.2 2 (by decide)).2 8).trans x8
  replace x9 : M.2.2 2 9 = .int 0 := (congrFun (hd.2.2.2 2 (by decide)).2 9).trans x9
  replace x10 : M.2.2 2 10 = .int 0 := (congrFun (hd.2.2.2 2 (by decide)).2 10).trans x10
  replace x11 : M.2.2 2 11 = .int 0 := (congrFun (hd.2.2.2 2 (by decide)).2 11).trans x11
  replace x12 : M.2.2 2 12 = .int 0 := (congrFun (hd.2.2.2 2 (by decide)).2 12).trans x12
  replace k3 : M.2.1 3 = (21, 12) := ((hd.2.2.2 3 (by decide)).1).trans k3
  replace x0 : M.2.2 2 0 = .ref 3 := (congrFun (hd.2.2.2 2 (by decide)).2 0).trans x0
  replace k4 : M.2.1 4 = (22, 6) := ((hd.2.2.2 4 (by decide)).1).trans k4
  replace x1 : M.2.2 2 1 = .ref 4 := (congrFun (hd.2.2.2 2 (by decide)).2 1).trans x1
  replace k5 : M.2.1 5 = (23, 9) := ((hd.2.2.2 5 (by decide)).1).trans k5
  replace x2 : M.2.2 2 2 = .ref 5 := (congrFun (hd.2.2.2 2 (by decide)).2 2).trans x2
  replace k6 : M.2.1 6 = (24, 4) := ((hd.2.2.2 6 (by decide)).1).trans k6
  replace x3 : M.2.2 2 3 = .ref 6 := (congrFun (hd.2.2.2 2 (by decide)).2 3).trans x3
  replace k7 : M.2.1 7 = (9, 1) := ((hd.2.2.2 7 (by decide)).1).trans k7
  replace f7 : M.2.2 7 0 = .ref 8 := (congrFun (hd.2.2.2 7 (by decide)).2 0).trans f7
  replace k8 : M.2.1 8 = (20, 32) := ((hd.2.2.2 8 (by decide)).1).trans k8
  replace x4 : M.2.2 2 4 = .ref 7 := (congrFun (hd.2.2.2 2 (by decide)).2 4).trans x4
  replace k9 : M.2.1 9 = (4, 6) := ((hd.2.2.2 9 (by decide)).1).trans k9
  replace f9 : M.2.2 9 0 = .ref 10 := (congrFun (hd.2.2.2 9 (by decide)).2 0).trans f9
  replace g9 : M.2.2 9 2 = .ref 11 := (congrFun (hd.2.2.2 9 (by decide)).2 2).trans g9
  replace k10 : M.2.1 10 = (20, 5) := ((hd.2.2.2 10 (by decide)).1).trans k10
  replace k11 : M.2.1 11 = (20, 60) := ((hd.2.2.2 11 (by decide)).1).trans k11
  replace x5 : M.2.2 2 5 = .ref 9 := (congrFun (hd.2.2.2 2 (by decide)).2 5).trans x5
  replace k12 : M.2.1 12 = (10, 2) := ((hd.2.2.2 12 (by decide)).1).trans k12
  replace f12 : M.2.2 12 0 = .ref 13 := (congrFun (hd.2.2.2 12 (by decide)).2 0).trans f12
  replace g12 : M.2.2 12 1 = .ref 15 := (congrFun (hd.2.2.2 12 (by decide)).2 1).trans g12
  replace k15 : M.2.1 15 = (20, 16) := ((hd.2.2.2 15 (by decide)).1).trans k15
  replace p13 : PV M 13 (-9) 0 0 (fun _ => -1) .null := p13.kp (hd.kp (S := fun _ => False) hM) (by rw [hM]; decide) (fun q => q) (fun q => q)
  replace x6 : M.2.2 2 6 = .ref 12 := (congrFun (hd.2.2.2 2 (by decide)).2 6).trans x6
  replace k16 : M.2.1 16 = (8, 1) := ((hd.2.2.2 16 (by decide)).1).trans k16
  replace t0 : M.2.2 16 0 = .int 0 := (congrFun (hd.2.2.2 16 (by decide)).2 0).trans t0
  replace x7 : M.2.2 2 7 = .ref 16 := (congrFun (hd.2.2.2 2 (by decide)).2 7).trans x7
  replace v17 : SV M 17 0 0 0 (fun _ => 0) := v17.kp (hd.kp (S := fun _ => False) hM) (by rw [hM]; decide) (fun q => q) (fun q => q)
  replace y0 : M.2.2 6 0 = .ref 17 := (congrFun (hd.2.2.2 6 (by decide)).2 0).trans y0
  replace v19 : SV M 19 0 0 0 (fun _ => 0) := v19.kp (hd.kp (S := fun _ => False) hM) (by rw [hM]; decide) (fun q => q) (fun q => q)
  replace y1 : M.2.2 6 1 = .ref 19 := (congrFun (hd.2.2.2 6 (by decide)).2 1).trans y1
  replace v21 : SV M 21 0 0 0 (fun _ => 0) := v21.kp (hd.kp (S := fun _ => False) hM) (by rw [hM]; decide) (fun q => q) (fun q => q)
  replace y2 : M.2.2 6 2 = .ref 21 := (congrFun (hd.2.2.2 6 (by decide)).2 2).trans y2
  replace hF := hF.nw hd (by decide)
  have ks : M.2.1 23 = (5, 4) := hd.2.1
  have s1 : M.2.2 23 1 = .int 0 := by rw [hd.2.2.1]; rfl
  have s2 : M.2.2 23 2 = .int 0 := by rw [hd.2.2.1]; rfl
  have s3 : M.2.2 23 3 = .int 0 := by rw [hd.2.2.1]; rfl
  replace hM : M.1 = 24 := hd.1
  clear hd
  refine aw_dup 98 dX11_init_98 rfl ?_
  refine ap_in 99 dX11_init_99 (c_X5_init hM ks s1 s2 s3) ckI_RX11_63 cd_X5_init rfl rfl (Nat.le_of_ble_eq_true rfl) ⟨⟨by decide, by decide⟩, by decide, by decide⟩ (fun M hq => ?_)
  replace kX : M.2.1 2 = (11, 13) := ((hq.2.1 2 (by decide)).1).trans kX
  replace x8 : M.2.2 2 8 = .int 0 := (congrFun (hq.2.1 2 (by decide)).2 8).trans x8
  replace x9 : M.2.2 2 9 = .int 0 := (congrFun (hq.2.1 2 (by decide)).2 9).trans x9
  replace x10 : M.2.2 2 10 = .int 0 := (congrFun (hq.2.1 2 (by decide)).2 10).trans x10
  replace x11 : M.2.2 2 11 = .int 0 := (congrFun (hq.2.1 2 (by decide)).2 11).trans x11
  replace x12 : M.2.2 2 12 = .int 0 := (congrFun (hq.2.1 2 (by decide)).2 12).trans x12
  replace k3 : M.2.1 3 = (21, 12) := ((hq.2.1 3 (by decide)).1).trans k3
  replace x0 : M.2.2 2 0 = .ref 3 := (congrFun (hq.2.1 2 (by decide)).2 0).trans x0
  replace k4 : M.2.1 4 = (22, 6) := ((hq.2.1 4 (by decide)).1).trans k4
  replace x1 : M.2.2 2 1 = .ref 4 := (congrFun (hq.2.1 2 (by decide)).2 1).trans x1
  replace k5 : M.2.1 5 = (23, 9) := ((hq.2.1 5 (by decide)).1).trans k5
  replace x2 : M.2.2 2 2 = .ref 5 := (congrFun (hq.2.1 2 (by decide)).2 2).trans x2
  replace k6 : M.2.1 6 = (24, 4) := ((hq.2.1 6 (by decide)).1).trans k6
  replace x3 : M.2.2 2 3 = .ref 6 := (congrFun (hq.2.1 2 (by decide)).2 3).trans x3
  replace k7 : M.2.1 7 = (9, 1) := ((hq.2.1 7 (by decide)).1).trans k7
  replace f7 : M.2.2 7 0 = .ref 8 := (congrFun (hq.2.1 7 (by decide)).2 0).trans f7
  replace k8 : M.2.1 8 = (20, 32) := ((hq.2.1 8 (by decide)).1).trans k8
  replace x4 : M.2.2 2 4 = .ref 7 := (congrFun (hq.2.1 2 (by decide)).2 4).trans x4
  replace k9 : M.2.1 9 = (4, 6) := ((hq.2.1 9 (by decide)).1).trans k9
  replace f9 : M.2.2 9 0 = .ref 10 := (congrFun (hq.2.1 9 (by decide)).2 0).trans f9
  replace g9 : M.2.2 9 2 = .ref 11 := (congrFun (hq.2.1 9 (by decide)).2 2).trans g9
  replace k10 : M.2.1 10 = (20, 5) := ((hq.2.1 10 (by decide)).1).trans k10
  replace k11 : M.2.1 11 = (20, 60) := ((hq.2.1 11 (by decide)).1).trans k11
  replace x5 : M.2.2 2 5 = .ref 9 := (congrFun (hq.2.1 2 (by decide)).2 5).trans x5
  replace k12 : M.2.1 12 = (10, 2) := ((hq.2.1 12 (by decide)).1).trans k12
  replace f12 : M.2.2 12 0 = .ref 13 := (congrFun (hq.2.1 12 (by decide)).2 0).trans f12
  replace g12 : M.2.2 12 1 = .ref 15 := (congrFun (hq.2.1 12 (by decide)).2 1).trans g12
  replace k15 : M.2.1 15 = (20, 16) := ((hq.2.1 15 (by decide)).1).trans k15
  replace p13 : PV M 13 (-9) 0 0 (fun _ => -1) .null := p13.fa hq.2.1 (by decide)
  replace x6 : M.2.2 2 6 = .ref 12 := (congrFun (hq.2.1 2 (by decide)).2 6).trans x6
  replace k16 : M.2.1 16 = (8, 1) := ((hq.2.1 16 (by decide)).1).trans k16
  replace t0 : M.2.2 16 0 = .int 0 := (congrFun (hq.2.1 16 (by decide)).2 0).trans t0
  replace x7 : M.2.2 2 7 = .ref 16 := (congrFun (hq.2.1 2 (by decide)).2 7).trans x7
  replace v17 : SV M 17 0 0 0 (fun _ => 0) := v17.fa hq.2.1 (by decide)
  replace y0 : M.2.2 6 0 = .ref 17 := (congrFun (hq.2.1 6 (by decide)).2 0).trans y0
  replace v19 : SV M 19 0 0 0 (fun _ => 0) := v19.fa hq.2.1 (by decide)
  replace y1 : M.2.2 6 1 = .ref 19 := (congrFun (hq.2.1 6 (by decide)).2 1).trans y1
  replace v21 : SV M 21 0 0 0 (fun _ => 0) := v21.fa hq.2.1 (by decide)
  replace y2 : M.2.2 6 2 = .ref 21 := (congrFun (hq.2.1 6 (by decide)).2 2).trans y2
  replace hF := hF.trans hq.2.1 (by decide)
  have v23 : SV M 23 0 0 0 (fun _ => 0) := hq.2.2
  replace hM : M.1 = 25 := hq.1
  clear hq
  refine aa_st 102 (3) dX11_init_102 k6 (by decide) (by decide) v23.1 rfl (show 3 < 4 by omega) (by decide) (fun M hd => ?_)
  replace kX : M.2.1 2 = (11, 13) := (congrFun hd.2.1 2).trans kX
  replace x8 : M.2.2 2 8 = .int 0 := (hd.2.2.2 2 8 (by decide)).trans x8
  replace x9 : M.2.2 2 9 = .int 0 := (hd.2.2.2 2 9 (by decide)).trans x9
  replace x10 : M.2.2 2 10 = .int 0 := (hd.2.2.2 2 10 (by decide)).trans x10
  replace x11 : M.2.2 2 11 = .int 0 := (hd.2.2.2 2 11 (by decide)).trans x11
  replace x12 : M.2.2 2 12 = .int 0 := (hd.2.2.2 2 12 (by decide)).trans x12
  replace k3 : M.2.1 3 = (21, 12) := (congrFun hd.2.1 3).trans k3
  replace x0 : M.2.2 2 0 = .ref 3 := (hd.2.2.2 2 0 (by decide)).trans x0
  replace k4 : M.2.1 4 = (22, 6) := (congrFun hd.2.1 4).trans k4
  replace x1 : M.2.2 2 1 = .ref 4 := (hd.2.2.2 2 1 (by decide)).trans x1
  replace k5 : M.2.1 5 = (23, 9) := (congrFun hd.2.1 5).trans k5
  replace x2 : M.2.2 2 2 = .ref 5 := (hd.2.2.2 2 2 (by decide)).trans x2
  replace k6 : M.2.1 6 = (24, 4) := (congrFun hd.2.1 6).trans k6
  replace x3 : M.2.2 2 3 = .ref 6 := (hd.2.2.2 2 3 (by decide)).trans x3
  replace k7 : M.2.1 7 = (9, 1) := (congrFun hd.2.1 7).trans k7
  replace f7 : M.2.2 7 0 = .ref 8 := (hd.2.2.2 7 0 (by decide)).trans f7
  replace k8 : M.2.1 8 = (20, 32) := (congrFun hd.2.1 8).trans k8
  replace x4 : M.2.2 2 4 = .ref 7 := (hd.2.2.2 2 4 (by decide)).trans x4
  replace k9 : M.2.1 9 = (4, 6) := (congrFun hd.2.1 9).trans k9
  replace f9 : M.2.2 9 0 = .ref 10 := (hd.2.2.2 9 0 (by decide)).trans f9
  replace g9 : M.2.2 9 2 = .ref 11 := (hd.2.2.2 9 2 (by decide)).trans g9
  replace k10 : M.2.1 10 = (20, 5) := (congrFun hd.2.1 10).trans k10
  replace k11 : M.2.1 11 = (20, 60) := (congrFun hd.2.1 11).trans k11
  replace x5 : M.2.2 2 5 = .ref 9 := (hd.2.2.2 2 5 (by decide)).trans x5
  replace k12 : M.2.1 12 = (10, 2) := (congrFun hd.2.1 12).trans k12
  replace f12 : M.2.2 12 0 = .ref 13 := (hd.2.2.2 12 0 (by decide)).trans f12
  replace g12 : M.2.2 12 1 = .ref 15 := (hd.2.2.2 12 1 (by decide)).trans g12
  replace k15 : M.2.1 15 = (20, 16) := (congrFun hd.2.1 15).trans k15
  replace p13 : PV M 13 (-9) 0 0 (fun _ => -1) .null := p13.frs (S := fun b => b = 6) (hd.toWd.toFrS rfl) (by decide) (by decide)
  replace x6 : M.2.2 2 6 = .ref 12 := (hd.2.2.2 2 6 (by decide)).trans x6
  replace k16 : M.2.1 16 = (8, 1) := (congrFun hd.2.1 16).trans k16
  replace t0 : M.2.2 16 0 = .int 0 := (hd.2.2.2 16 0 (by decide)).trans t0
  replace x7 : M.2.2 2 7 = .ref 16 := (hd.2.2.2 2 7 (by decide)).trans x7
  replace v17 : SV M 17 0 0 0 (fun _ => 0) := v17.frs (S := fun b => b = 6) (hd.toWd.toFrS rfl) (by decide) (by decide)
  replace y0 : M.2.2 6 0 = .ref 17 := (hd.2.2.2 6 0 (by decide)).trans y0
  replace v19 : SV M 19 0 0 0 (fun _ => 0) := v19.frs (S := fun b => b = 6) (hd.toWd.toFrS rfl) (by decide) (by decide)
  replace y1 : M.2.2 6 1 = .ref 19 := (hd.2.2.2 6 1 (by decide)).trans y1
  replace v21 : SV M 21 0 0 0 (fun _ => 0) := v21.frs (S := fun b => b = 6) (hd.toWd.toFrS rfl) (by decide) (by decide)
  replace y2 : M.2.2 6 2 = .ref 21 := (hd.2.2.2 6 2 (by decide)).trans y2
  replace v23 : SV M 23 0 0 0 (fun _ => 0) := v23.frs (S := fun b => b = 6) (hd.toWd.toFrS rfl) (by decide) (by decide)
  replace hF := hF.wd hd.toWd (by decide)
  replace hM := hd.1.trans hM
  have y3 : M.2.2 6 3 = .ref 23 := hd.2.2.1
  clear hd
  refine aw_iinc1 103 (nI 4) dX11_init_103 (by decide) rfl ?_
  refine aw_goto 106 85 dX11_init_106 (by decide) ?_
  refine aw_iload1 85 dX11_init_85 ?_
  refine aw_ic4 86 dX11_init_86 ?_
  refine aw_icmp_geN 87 109 (4) (4) dX11_init_87 (by decide) rfl rfl (by decide) (by decide) (fun _ => ?_) (fun h => absurd h (by decide))
  refine aw_vret 109 dX11_init_109 rfl (by decide) (by decide) ?_
  refine ⟨rfl, hF, hM, ⟨kX, x0, x1, x2, x3, x4, x5, x6, x7, x8, x9, x10, x11, x12⟩, ⟨k3, k4, k5, k6, fun k hk => ?_⟩, ⟨⟨k7, f7, k8⟩, ⟨k9, f9, g9, k10, k11⟩, 0, 0, fun _ => -1, k12, f12, g12, k15, p13⟩, ⟨k16, t0⟩, fun k hk => ?_⟩
  · rcases (show k = 0 ∨ k = 1 ∨ k = 2 ∨ k = 3 by omega) with rfl | rfl | rfl | rfl
    · exact y0
    · exact y1
    · exact y2
    · exact y3
  · rcases (show k = 0 ∨ k = 1 ∨ k = 2 ∨ k = 3 by omega) with rfl | rfl | rfl | rfl
    · exact v17
    · exact v19
    · exact v21
    · exact v23

theorem ckQ_RX12_12_2 : ckQ RX12 12 2 = true := by decide +kernel
theorem ckQ_RX12_12_3 : ckQ RX12 12 3 = true := by decide +kernel
theorem ckQ_RX12_12_4 : ckQ RX12 12 4 = true := by decide +kernel
theorem ckQ_RX12_12_5 : ckQ RX12 12 5 = true := by decide +kernel
theorem ckQ_RX12_12_7 : ckQ RX12 12 7 = true := by decide +kernel
theorem ckQ_RX12_12_11 : ckQ RX12 12 11 = true := by decide +kernel
theorem ckQ_RX12_12_12 : ckQ RX12 12 12 = true := by decide +kernel
theorem ckQ_RX12_12_14 : ckQ RX12 12 14 = true := by decide +kernel
theorem ckQ_RX12_12_15 : ckQ RX12 12 15 = true := by decide +kernel
theorem ckQ_RX12_12_16 : ckQ RX12 12 16 = true := by decide +kernel
theorem ckQ_RX12_12_17 : ckQ RX12 12 17 = true := by decide +kernel
theorem ckQ_RX12_12_18 : ckQ RX12 12 18 = true := by decide +kernel
theorem ckQ_RX12_12_19 : ckQ RX12 12 19 = true := by decide +kernel
theorem ckQ_RX12_12_20 : ckQ RX12 12 20 = true := by decide +kernel
theorem ckQ_RX12_12_21 : ckQ RX12 12 21 = true := by decide +kernel
theorem ckQ_RX12_12_22 : ckQ RX12 12 22 = true := by decide +kernel
theorem ckQ_RX12_12_25 : ckQ RX12 12 25 = true := by decide +kernel
theorem ckQ_RX12_12_26 : ckQ RX12 12 26 = true := by decide +kernel
theorem ckQ_RX12_12_27 : ckQ RX12 12 27 = true := by decide +kernel
theorem ckQ_RX12_12_28 : ckQ RX12 12 28 = true := by decide +kernel
theorem ckQ_RX12_12_29 : ckQ RX12 12 29 = true := by decide +kernel
theorem ckQ_RX12_12_30 : ckQ RX12 12 30 = true := by decide +kernel
theorem ckQ_RX12_12_31 : ckQ RX12 12 31 = true := by decide +kernel
/-- the table at the start -/
def τI : TT := (ov (ov (fun _ _ => 0) 16 0 (12) (fun _ => -9)) 28 0 (4) (fun _ => -1))

def rmX12_init : Room := { frames := 1, cells := 23, slots := 1024, locals := 20 }
set_option maxHeartbeats 4000000 in
set_option maxRecDepth 100000 in
theorem c_X12_init {M0 : Mem} (hM : M0.1 = 26) (kX : M0.2.1 25 = (12, 33)) (x0 : M0.2.2 25 0 = .int 0) (x1 : M0.2.2 25 1 = .int 0) (x6 : M0.2.2 25 6 = .int 0) (x8 : M0.2.2 25 8 = .int 0) (x9 : M0.2.2 25 9 = .int 0) (x10 : M0.2.2 25 10 = .int 0) (x13 : M0.2.2 25 13 = .int 0) (x23 : M0.2.2 25 23 = .int 0) (x24 : M0.2.2 25 24 = .int 0) (x32 : M0.2.2 25 32 = .int 0) : AP mX12_init rmX12_init [.ref 25] M0 none (fun M => Fa 25 M0 M ∧ M.1 = 49 ∧ RW τI M) := by
  refine am_of rfl rfl (ls := [some (.ref 25), none]) rfl ?_
  suffices HH : ∀ M, (M.1 = 26) → (Fa 25 M0 M) → (M.2.1 25 = (12, 33)) → (M.2.2 25 0 = .int 0) → (M.2.2 25 1 = .int 0) → (M.2.2 25 6 = .int 0) → (M.2.2 25 8 = .int 0) → (M.2.2 25 9 = .int 0) → (M.2.2 25 10 = .int 0) → (M.2.2 25 13 = .int 0) → (M.2.2 25 23 = .int 0) → (M.2.2 25 24 = .int 0) → (M.2.2 25 32 = .int 0) → AW mX12_init rmX12_init (fun r' M' => r' = none ∧ (fun M => Fa 25 M0 M ∧ M.1 = 49 ∧ RW τI M) M') 0 [some (.ref 25), none] [] M 0 0 from HH M0 hM (Fa.rf _ _) kX x0 x1 x6 x8 x9 x10 x13 x23 x24 x32
  intro M hM hF kX x0 x1 x6 x8 x9 x10 x13 x23 x24 x32
  refine aw_aload0 0 dX12_init_0 ?_
  refine aw_objInit 1 dX12_init_1 ckO_RX12_1 (Nat.le_of_ble_eq_true rfl) (by decide) (by decide) ?_
  refine aw_aload0 4 dX12_init_4 ?_
  refine aw_bipush 5 12 dX12_init_5 (by decide) ?_
  refine na_new 7 (12) (26) dX12_init_7 rfl (by decide) hM (by decide) (by decide) (fun M hd => ?_)
  replace kX : M.2.1 25 = (12, 33) := ((hd.2.2.2 25 (by decide)).1).trans kX
  replace x0 : M.2.2 25 0 = .int 0 := (congrFun (hd.2.2.2 25 (by decide)).2 0).trans x0
  replace x1 : M.2.2 25 1 = .int 0 := (congrFun (hd.2.2.2 25 (by decide)).2 1).trans x1
  replace x6 : M.2.2 25 6 = .int 0 := (congrFun (hd.2.2.2 25 (by decide)).2 6).trans x6
  replace x8 : M.2.2 25 8 = .int 0 := (congrFun (hd.2.2.2 25 (by decide)).2 8).trans x8
  replace x9 : M.2.2 25 9 = .int 0 := (congrFun (hd.2.2.2 25 (by decide)).2 9).trans x9
  replace x10 : M.2.2 25 10 = .int 0 := (congrFun (hd.2.2.2 25 (by decide)).2 10).trans x10
  replace x13 : M.2.2 25 13 = .int 0 := (congrFun (hd.2.2.2 25 (by decide)).2 13).trans x13
  replace x23 : M.2.2 25 23 = .int 0 := (congrFun (hd.2.2.2 25 (by decide)).2 23).trans x23
  replace x24 : M.2.2 25 24 = .int 0 := (congrFun (hd.2.2.2 25 (by decide)).2 24).trans x24
  replace x32 : M.2.2 25 32 = .int 0 := (congrFun (hd.2.2.2 25 (by decide)).2 32).trans x32
  replace hF := hF.nw hd (by decide)
  have k26 : M.2.1 26 = (20, 12) := hd.2.1
  have z26 : M.2.2 26 = fun _ => .int 0 := hd.2.2.1
  replace hM : M.1 = 27 := hd.1
  clear hd
  refine fp_putF 9 dX12_init_9 ckF_RX12_7_12 ckQ_RX12_12_2 rfl kX rfl rfl (fun M hd => ?_)
  replace kX : M.2.1 25 = (12, 33) := (congrFun hd.2.1 25).trans kX
  replace x0 : M.2.2 25 0 = .int 0 := (hd.2.2.2 25 0 (by decide)).trans x0
  replace x1 : M.2.2 25 1 = .int 0 := (hd.2.2.2 25 1 (by decide)).trans x1
  replace x6 : M.2.2 25 6 = .int 0 := (hd.2.2.2 25 6 (by decide)).trans x6
  replace x8 : M.2.2 25 8 = .int 0 := (hd.2.2.2 25 8 (by decide)).trans x8
  replace x9 : M.2.2 25 9 = .int 0 := (hd.2.2.2 25 9 (by decide)).trans x9
  replace x10 : M.2.2 25 10 = .int 0 := (hd.2.2.2 25 10 (by decide)).trans x10
  replace x13 : M.2.2 25 13 = .int 0 := (hd.2.2.2 25 13 (by decide)).trans x13
  replace x23 : M.2.2 25 23 = .int 0 := (hd.2.2.2 25 23 (by decide)).trans x23
  replace x24 : M.2.2 25 24 = .int 0 := (hd.2.2.2 25 24 (by decide)).trans x24
  replace x32 : M.2.2 25 32 = .int 0 := (hd.2.2.2 25 32 (by decide)).trans x32
  replace k26 : M.2.1 26 = (20, 12) := (congrFun hd.2.1 26).trans k26
  replace z26 : M.2.2 26 = fun _ => .int 0 := (hd.toWd.2.2 26 (by decide)).trans z26
  replace hF := hF.wd hd.toWd (by decide)
  replace hM := hd.1.trans hM
  have x2 : M.2.2 25 2 = .ref 26 := hd.2.2.1
  clear hd
  refine aw_aload0 12 dX12_init_12 ?_
  refine aw_bipush 13 12 dX12_init_13 (by decide) ?_
  refine na_new 15 (12) (27) dX12_init_15 rfl (by decide) hM (by decide) (by decide) (fun M hd => ?_)
  replace kX : M.2.1 25 = (12, 33) := ((hd.2.2.2 25 (by decide)).1).trans kX
  replace x0 : M.2.2 25 0 = .int 0 := (congrFun (hd.2.2.2 25 (by decide)).2 0).trans x0
  replace x1 : M.2.2 25 1 = .int 0 := (congrFun (hd.2.2.2 25 (by decide)).2 1).trans x1
  replace x6 : M.2.2 25 6 = .int 0 := (congrFun (hd.2.2.2 25 (by decide)).2 6).trans x6
  replace x8 : M.2.2 25 8 = .int 0 := (congrFun (hd.2.2.2 25 (by decide)).2 8).trans x8
  replace x9 : M.2.2 25 9 = .int 0 := (congrFun (hd.2.2.2 25 (by decide)).2 9).trans x9
  replace x10 : M.2.2 25 10 = .int 0 := (congrFun (hd.2.2.2 25 (by decide)).2 10).trans x10
  replace x13 : M.2.2 25 13 = .int 0 := (congrFun (hd.2.2.2 25 (by decide)).2 13).trans x13
  replace x23 : M.2.2 25 23 = .int 0 := (congrFun (hd.2.2.2 25 (by decide)).2 23).trans x23
  replace x24 : M.2.2 25 24 = .int 0 := (congrFun (hd.2.2.2 25 (by decide)).2 24).trans x24
  replace x32 : M.2.2 25 32 = .int 0 := (congrFun (hd.2.2.2 25 (by decide)).2 32).trans x32
  replace k26 : M.2.1 26 = (20, 12) := ((hd.2.2.2 26 (by decide)).1).trans k26
  replace z26 : M.2.2 26 = fun _ => .int 0 := ((hd.2.2.2 26 (by decide)).2).trans z26
  replace x2 : M.2.2 25 2 = .ref 26 := (congrFun (hd.2.2.2 25 (by decide)).2 2).trans x2
  replace hF := hF.nw hd (by decide)
  have k27 : M.2.1 27 = (20, 12) := hd.2.1
  have z27 : M.2.2 27 = fun _ => .int 0 := hd.2.2.1
  replace hM : M.1 = 28 := hd.1
  clear hd
  refine fp_putF 17 dX12_init_17 ckF_RX12_13_12 ckQ_RX12_12_3 rfl kX rfl rfl (fun M hd => ?_)
  replace kX : M.2.1 25 = (12, 33) := (congrFun hd.2.1 25).trans kX
  replace x0 : M.2.2 25 0 = .int 0 := (hd.2.2.2 25 0 (by decide)).trans x0
  replace x1 : M.2.2 25 1 = .int 0 := (hd.2.2.2 25 1 (by decide)).trans x1
  replace x6 : M.2.2 25 6 = .int 0 := (hd.2.2.2 25 6 (by decide)).trans x6
  replace x8 : M.2.2 25 8 = .int 0 := (hd.2.2.2 25 8 (by decide)).trans x8
  replace x9 : M.2.2 25 9 = .int 0 := (hd.2.2.2 25 9 (by decide)).trans x9
  replace x10 : M.2.2 25 10 = .int 0 := (hd.2.2.2 25 10 (by decide)).trans x10
  replace x13 : M.2.2 25 13 = .int 0 := (hd.2.2.2 25 13 (by decide)).trans x13
  replace x23 : M.2.2 25 23 = .int 0 := (hd.2.2.2 25 23 (by decide)).trans x23
  replace x24 : M.2.2 25 24 = .int 0 := (hd.2.2.2 25 24 (by decide)).trans x24
  replace x32 : M.2.2 25 32 = .int 0 := (hd.2.2.2 25 32 (by decide)).trans x32
  replace k26 : M.2.1 26 = (20, 12) := (congrFun hd.2.1 26).trans k26
  replace z26 : M.2.2 26 = fun _ => .int 0 := (hd.toWd.2.2 26 (by decide)).trans z26
  replace x2 : M.2.2 25 2 = .ref 26 := (hd.2.2.2 25 2 (by decide)).trans x2
  replace k27 : M.2.1 27 = (20, 12) := (congrFun hd.2.1 27).trans k27
  replace z27 : M.2.2 27 = fun _ => .int 0 := (hd.toWd.2.2 27 (by decide)).trans z27
  replace hF := hF.wd hd.toWd (by decide)
  replace hM := hd.1.trans hM
  have x3 : M.2.2 25 3 = .ref 27 := hd.2.2.1
  clear hd
  refine aw_aload0 20 dX12_init_20 ?_
  refine aw_sipush 21 192 dX12_init_21 (by decide) ?_
  refine na_new 24 (192) (28) dX12_init_24 rfl (by decide) hM (by decide) (by decide) (fun M hd => ?_)
  replace kX : M.2.1 25 = (12, 33) := ((hd.2.2.2 25 (by decide)).1).trans kX
  replace x0 : M.2.2 25 0 = .int 0 := (congrFun (hd.2.2.2 25 (by decide)).2 0).trans x0
  replace x1 : M.2.2 25 1 = .int 0 := (congrFun (hd.2.2.2 25 (by decide)).2 1).trans x1
  replace x6 : M.2.2 25 6 = .int 0 := (congrFun (hd.2.2.2 25 (by decide)).2 6).trans x6
  replace x8 : M.2.2 25 8 = .int 0 := (congrFun (hd.2.2.2 25 (by decide)).2 8).trans x8
  replace x9 : M.2.2 25 9 = .int 0 := (congrFun (hd.2.2.2 25 (by decide)).2 9).trans x9
  replace x10 : M.2.2 25 10 = .int 0 := (congrFun (hd.2.2.2 25 (by decide)).2 10).trans x10
  replace x13 : M.2.2 25 13 = .int 0 := (congrFun (hd.2.2.2 25 (by decide)).2 13).trans x13
  replace x23 : M.2.2 25 23 = .int 0 := (congrFun (hd.2.2.2 25 (by decide)).2 23).trans x23
  replace x24 : M.2.2 25 24 = .int 0 := (congrFun (hd.2.2.2 25 (by decide)).2 24).trans x24
  replace x32 : M.2.2 25 32 = .int 0 := (congrFun (hd.2.2.2 25 (by decide)).2 32).trans x32
  replace k26 : M.2.1 26 = (20, 12) := ((hd.2.2.2 26 (by decide)).1).trans k26
  replace z26 : M.2.2 26 = fun _ => .int 0 := ((hd.2.2.2 26 (by decide)).2).trans z26
  replace x2 : M.2.2 25 2 = .ref 26 := (congrFun (hd.2.2.2 25 (by decide)).2 2).trans x2
  replace k27 : M.2.1 27 = (20, 12) := ((hd.2.2.2 27 (by decide)).1).trans k27
  replace z27 : M.2.2 27 = fun _ => .int 0 := ((hd.2.2.2 27 (by decide)).2).trans z27
  replace x3 : M.2.2 25 3 = .ref 27 := (congrFun (hd.2.2.2 25 (by decide)).2 3).trans x3
  replace hF := hF.nw hd (by decide)
  have k28 : M.2.1 28 = (20, 192) := hd.2.1
  have z28 : M.2.2 28 = fun _ => .int 0 := hd.2.2.1
  replace hM : M.1 = 29 := hd.1
  clear hd
  refine fp_putF 26 dX12_init_26 ckF_RX12_16_12 ckQ_RX12_12_4 rfl kX rfl rfl (fun M hd => ?_)
  replace kX : M.2.1 25 = (12, 33) := (congrFun hd.2.1 25).trans kX
  replace x0 : M.2.2 25 0 = .int 0 := (hd.2.2.2 25 0 (by decide)).trans x0
  replace x1 : M.2.2 25 1 = .int 0 := (hd.2.2.2 25 1 (by decide)).trans x1
  replace x6 : M.2.2 25 6 = .int 0 := (hd.2.2.2 25 6 (by decide)).trans x6
  replace x8 : M.2.2 25 8 = .int 0 := (hd.2.2.2 25 8 (by decide)).trans x8
  replace x9 : M.2.2 25 9 = .int 0 := (hd.2.2.2 25 9 (by decide)).trans x9
  replace x10 : M.2.2 25 10 = .int 0 := (hd.2.2.2 25 10 (by decide)).trans x10
  replace x13 : M.2.2 25 13 = .int 0 := (hd.2.2.2 25 13 (by decide)).trans x13
  replace x23 : M.2.2 25 23 = .int 0 := (hd.2.2.2 25 23 (by decide)).trans x23
  replace x24 : M.2.2 25 24 = .int 0 := (hd.2.2.2 25 24 (by decide)).trans x24
  replace x32 : M.2.2 25 32 = .int 0 := (hd.2.2.2 25 32 (by decide)).trans x32
  replace k26 : M.2.1 26 = (20, 12) := (congrFun hd.2.1 26).trans k26
  replace z26 : M.2.2 26 = fun _ => .int 0 := (hd.toWd.2.2 26 (by decide)).trans z26
  replace x2 : M.2.2 25 2 = .ref 26 := (hd.2.2.2 25 2 (by decide)).trans x2
  replace k27 : M.2.1 27 = (20, 12) := (congrFun hd.2.1 27).trans k27
  replace z27 : M.2.2 27 = fun _ => .int 0 := (hd.toWd.2.2 27 (by decide)).trans z27
  replace x3 : M.2.2 25 3 = .ref 27 := (hd.2.2.2 25 3 (by decide)).trans x3
  replace k28 : M.2.1 28 = (20, 192) := (congrFun hd.2.1 28).trans k28
  replace z28 : M.2.2 28 = fun _ => .int 0 := (hd.toWd.2.2 28 (by decide)).trans z28
  replace hF := hF.wd hd.toWd (by decide)
  replace hM := hd.1.trans hM
  have x4 : M.2.2 25 4 = .ref 28 := hd.2.2.1
  clear hd
  refine aw_aload0 29 dX12_init_29 ?_
  refine aw_bipush 30 32 dX12_init_30 (by decide) ?_
  refine na_new 32 (32) (29) dX12_init_32 rfl (by decide) hM (by decide) (by decide) (fun M hd => ?_)
  replace kX : M.2.1 25 = (12, 33) := ((hd.2.2.2 25 (by decide)).1).trans kX
  replace x0 : M.2.2 25 0 = .int 0 := (congrFun (hd.2.2.2 25 (by decide)).2 0).trans x0
  replace x1 : M.2.2 25 1 = .int 0 := (congrFun (hd.2.2.2 25 (by decide)).2 1).trans x1
  replace x6 : M.2.2 25 6 = .int 0 := (congrFun (hd.2.2.2 25 (by decide)).2 6).trans x6
  replace x8 : M.2.2 25 8 = .int 0 := (congrFun (hd.2.2.2 25 (by decide)).2 8).trans x8
  replace x9 : M.2.2 25 9 = .int 0 := (congrFun (hd.2.2.2 25 (by decide)).2 9).trans x9
  replace x10 : M.2.2 25 10 = .int 0 := (congrFun (hd.2.2.2 25 (by decide)).2 10).trans x10
  replace x13 : M.2.2 25 13 = .int 0 := (congrFun (hd.2.2.2 25 (by decide)).2 13).trans x13
  replace x23 : M.2.2 25 23 = .int 0 := (congrFun (hd.2.2.2 25 (by decide)).2 23).trans x23
  replace x24 : M.2.2 25 24 = .int 0 := (congrFun (hd.2.2.2 25 (by decide)).2 24).trans x24
  replace x32 : M.2.2 25 32 = .int 0 := (congrFun (hd.2.2.2 25 (by decide)).2 32).trans x32
  replace k26 : M.2.1 26 = (20, 12) := ((hd.2.2.2 26 (by decide)).1).trans k26
  replace z26 : M.2.2 26 = fun _ => .int 0 := ((hd.2.2.2 26 (by decide)).2).trans z26
  replace x2 : M.2.2 25 2 = .ref 26 := (congrFun (hd.2.2.2 25 (by decide)).2 2).trans x2
  replace k27 : M.2.1 27 = (20, 12) := ((hd.2.2.2 27 (by decide)).1).trans k27
  replace z27 : M.2.2 27 = fun _ => .int 0 := ((hd.2.2.2 27 (by decide)).2).trans z27
  replace x3 : M.2.2 25 3 = .ref 27 := (congrFun (hd.2.2.2 25 (by decide)).2 3).trans x3
  replace k28 : M.2.1 28 = (20, 192) := ((hd.2.2.2 28 (by decide)).1).trans k28
  replace z28 : M.2.2 28 = fun _ => .int 0 := ((hd.2.2.2 28 (by decide)).2).trans z28
  replace x4 : M.2.2 25 4 = .ref 28 := (congrFun (hd.2.2.2 25 (by decide)).2 4).trans x4
  replace hF := hF.nw hd (by decide)
  have k29 : M.2.1 29 = (20, 32) := hd.2.1
  have z29 : M.2.2 29 = fun _ => .int 0 := hd.2.2.1
  replace hM : M.1 = 30 := hd.1
  clear hd
  refine fp_putF 34 dX12_init_34 ckF_RX12_19_12 ckQ_RX12_12_5 rfl kX rfl rfl (fun M hd => ?_)
  replace kX : M.2.1 25 = (12, 33) := (congrFun hd.2.1 25).trans kX
  replace x0 : M.2.2 25 0 = .int 0 := (hd.2.2.2 25 0 (by decide)).trans x0
  replace x1 : M.2.2 25 1 = .int 0 := (hd.2.2.2 25 1 (by decide)).trans x1
  replace x6 : M.2.2 25 6 = .int 0 := (hd.2.2.2 25 6 (by decide)).trans x6
  replace x8 : M.2.2 25 8 = .int 0 := (hd.2.2.2 25 8 (by decide)).trans x8
  replace x9 : M.2.2 25 9 = .int 0 := (hd.2.2.2 25 9 (by decide)).trans x9
  replace x10 : M.2.2 25 10 = .int 0 := (hd.2.2.2 25 10 (by decide)).trans x10
  replace x13 : M.2.2 25 13 = .int 0 := (hd.2.2.2 25 13 (by decide)).trans x13
  replace x23 : M.2.2 25 23 = .int 0 := (hd.2.2.2 25 23 (by decide)).trans x23
  replace x24 : M.2.2 25 24 = .int 0 := (hd.2.2.2 25 24 (by decide)).trans x24
  replace x32 : M.2.2 25 32 = .int 0 := (hd.2.2.2 25 32 (by decide)).trans x32
  replace k26 : M.2.1 26 = (20, 12) := (congrFun hd.2.1 26).trans k26
  replace z26 : M.2.2 26 = fun _ => .int 0 := (hd.toWd.2.2 26 (by decide)).trans z26
  replace x2 : M.2.2 25 2 = .ref 26 := (hd.2.2.2 25 2 (by decide)).trans x2
  replace k27 : M.2.1 27 = (20, 12) := (congrFun hd.2.1 27).trans k27
  replace z27 : M.2.2 27 = fun _ => .int 0 := (hd.toWd.2.2 27 (by decide)).trans z27
  replace x3 : M.2.2 25 3 = .ref 27 := (hd.2.2.2 25 3 (by decide)).trans x3
  replace k28 : M.2.1 28 = (20, 192) := (congrFun hd.2.1 28).trans k28
  replace z28 : M.2.2 28 = fun _ => .int 0 := (hd.toWd.2.2 28 (by decide)).trans z28
  replace x4 : M.2.2 25 4 = .ref 28 := (hd.2.2.2 25 4 (by decide)).trans x4
  replace k29 : M.2.1 29 = (20, 32) := (congrFun hd.2.1 29).trans k29
  replace z29 : M.2.2 29 = fun _ => .int 0 := (hd.toWd.2.2 29 (by decide)).trans z29
  replace hF := hF.wd hd.toWd (by decide)
  replace hM := hd.1.trans hM
  have x5 : M.2.2 25 5 = .ref 29 := hd.2.2.1
  clear hd
  refine aw_aload0 37 dX12_init_37 ?_
  refine aw_bipush 38 25 dX12_init_38 (by decide) ?_
  refine na_new 40 (25) (30) dX12_init_40 rfl (by decide) hM (by decide) (by decide) (fun M hd => ?_)
  replace kX : M.2.1 25 = (12, 33) := ((hd.2.2.2 25 (by decide)).1).trans kX
  replace x0 : M.2.2 25 0 = .int 0 := (congrFun (hd.2.2.2 25 (by decide)).2 0).trans x0
  replace x1 : M.2.2 25 1 = .int 0 := (congrFun (hd.2.2.2 25 (by decide)).2 1).trans x1
  replace x6 : M.2.2 25 6 = .int 0 := (congrFun (hd.2.2.2 25 (by decide)).2 6).trans x6
  replace x8 : M.2.2 25 8 = .int 0 := (congrFun (hd.2.2.2 25 (by decide)).2 8).trans x8
  replace x9 : M.2.2 25 9 = .int 0 := (congrFun (hd.2.2.2 25 (by decide)).2 9).trans x9
  replace x10 : M.2.2 25 10 = .int 0 := (congrFun (hd.2.2.2 25 (by decide)).2 10).trans x10
  replace x13 : M.2.2 25 13 = .int 0 := (congrFun (hd.2.2.2 25 (by decide)).2 13).trans x13
  replace x23 : M.2.2 25 23 = .int 0 := (congrFun (hd.2.2.2 25 (by decide)).2 23).trans x23
  replace x24 : M.2.2 25 24 = .int 0 := (congrFun (hd.2.2.2 25 (by decide)).2 24).trans x24
  replace x32 : M.2.2 25 32 = .int 0 := (congrFun (hd.2.2.2 25 (by decide)).2 32).trans x32
  replace k26 : M.2.1 26 = (20, 12) := ((hd.2.2.2 26 (by decide)).1).trans k26
  replace z26 : M.2.2 26 = fun _ => .int 0 := ((hd.2.2.2 26 (by decide)).2).trans z26
  replace x2 : M.2.2 25 2 = .ref 26 := (congrFun (hd.2.2.2 25 (by decide)).2 2).trans x2
  replace k27 : M.2.1 27 = (20, 12) := ((hd.2.2.2 27 (by decide)).1).trans k27
  replace z27 : M.2.2 27 = fun _ => .int 0 := ((hd.2.2.2 27 (by decide)).2).trans z27
  replace x3 : M.2.2 25 3 = .ref 27 := (congrFun (hd.2.2.2 25 (by decide)).2 3).trans x3
  replace k28 : M.2.1 28 = (20, 192) := ((hd.2.2.2 28 (by decide)).1).trans k28
  replace z28 : M.2.2 28 = fun _ => .int 0 := ((hd.2.2.2 28 (by decide)).2).trans z28
  replace x4 : M.2.2 25 4 = .ref 28 := (congrFun (hd.2.2.2 25 (by decide)).2 4).trans x4
  replace k29 : M.2.1 29 = (20, 32) := ((hd.2.2.2 29 (by decide)).1).trans k29
  replace z29 : M.2.2 29 = fun _ => .int 0 := ((hd.2.2.2 29 (by decide)).2).trans z29
  replace x5 : M.2.2 25 5 = .ref 29 := (congrFun (hd.2.2.2 25 (by decide)).2 5).trans x5
  replace hF := hF.nw hd (by decide)
  have k30 : M.2.1 30 = (20, 25) := hd.2.1
  have z30 : M.2.2 30 = fun _ => .int 0 := hd.2.2.1
  replace hM : M.1 = 31 := hd.1
  clear hd
  refine fp_putF 42 dX12_init_42 ckF_RX12_22_12 ckQ_RX12_12_7 rfl kX rfl rfl (fun M hd => ?_)
  replace kX : M.2.1 25 = (12, 33) := (congrFun hd.2.1 25).trans kX
  replace x0 : M.2.2 25 0 = .int 0 := (hd.2.2.2 25 0 (by decide)).trans x0
  replace x1 : M.2.2 25 1 = .int 0 := (hd.2.2.2 25 1 (by decide)).trans x1
  replace x6 : M.2.2 25 6 = .int 0 := (hd.2.2.2 25 6 (by decide)).trans x6
  replace x8 : M.2.2 25 8 = .int 0 := (hd.2.2.2 25 8 (by decide)).trans x8
  replace x9 : M.2.2 25 9 = .int 0 := (hd.2.2.2 25 9 (by decide)).trans x9
  replace x10 : M.2.2 25 10 = .int 0 := (hd.2.2.2 25 10 (by decide)).trans x10
  replace x13 : M.2.2 25 13 = .int 0 := (hd.2.2.2 25 13 (by decide)).trans x13
  replace x23 : M.2.2 25 23 = .int 0 := (hd.2.2.2 25 23 (by decide)).trans x23
  replace x24 : M.2.2 25 24 = .int 0 := (hd.2.2.2 25 24 (by decide)).trans x24
  replace x32 : M.2.2 25 32 = .int 0 := (hd.2.2.2 25 32 (by decide)).trans x32
  replace k26 : M.2.1 26 = (20, 12) := (congrFun hd.2.1 26).trans k26
  replace z26 : M.2.2 26 = fun _ => .int 0 := (hd.toWd.2.2 26 (by decide)).trans z26
  replace x2 : M.2.2 25 2 = .ref 26 := (hd.2.2.2 25 2 (by decide)).trans x2
  replace k27 : M.2.1 27 = (20, 12) := (congrFun hd.2.1 27).trans k27
  replace z27 : M.2.2 27 = fun _ => .int 0 := (hd.toWd.2.2 27 (by decide)).trans z27
  replace x3 : M.2.2 25 3 = .ref 27 := (hd.2.2.2 25 3 (by decide)).trans x3
  replace k28 : M.2.1 28 = (20, 192) := (congrFun hd.2.1 28).trans k28
  replace z28 : M.2.2 28 = fun _ => .int 0 := (hd.toWd.2.2 28 (by decide)).trans z28
  replace x4 : M.2.2 25 4 = .ref 28 := (hd.2.2.2 25 4 (by decide)).trans x4
  replace k29 : M.2.1 29 = (20, 32) := (congrFun hd.2.1 29).trans k29
  replace z29 : M.2.2 29 = fun _ => .int 0 := (hd.toWd.2.2 29 (by decide)).trans z29
  replace x5 : M.2.2 25 5 = .ref 29 := (hd.2.2.2 25 5 (by decide)).trans x5
  replace k30 : M.2.1 30 = (20, 25) := (congrFun hd.2.1 30).trans k30
  replace z30 : M.2.2 30 = fun _ => .int 0 := (hd.toWd.2.2 30 (by decide)).trans z30
  replace hF := hF.wd hd.toWd (by decide)
  replace hM := hd.1.trans hM
  have x7 : M.2.2 25 7 = .ref 30 := hd.2.2.1
  clear hd
  refine aw_aload0 45 dX12_init_45 ?_
  refine aw_bipush 46 16 dX12_init_46 (by decide) ?_
  refine na_new 48 (16) (31) dX12_init_48 rfl (by decide) hM (by decide) (by decide) (fun M hd => ?_)
  replace kX : M.2.1 25 = (12, 33) := ((hd.2.2.2 25 (by decide)).1).trans kX
  replace x0 : M.2.2 25 0 = .int 0 := (congrFun (hd.2.2.2 25 (by decide)).2 0).trans x0
  replace x1 : M.2.2 25 1 = .int 0 := (congrFun (hd.2.2.2 25 (by decide)).2 1).trans x1
  replace x6 : M.2.2 25 6 = .int 0 := (congrFun (hd.2.2.2 25 (by decide)).2 6).trans x6
  replace x8 : M.2.2 25 8 = .int 0 := (congrFun (hd.2.2.2 25 (by decide)).2 8).trans x8
  replace x9 : M.2.2 25 9 = .int 0 := (congrFun (hd.2.2.2 25 (by decide)).2 9).trans x9
  replace x10 : M.2.2 25 10 = .int 0 := (congrFun (hd.2.2.2 25 (by decide)).2 10).trans x10
  replace x13 : M.2.2 25 13 = .int 0 := (congrFun (hd.2.2.2 25 (by decide)).2 13).trans x13
  replace x23 : M.2.2 25 23 = .int 0 := (congrFun (hd.2.2.2 25 (by decide)).2 23).trans x23
  replace x24 : M.2.2 25 24 = .int 0 := (congrFun (hd.2.2.2 25 (by decide)).2 24).trans x24
  replace x32 : M.2.2 25 32 = .int 0 := (congrFun (hd.2.2.2 25 (by decide)).2 32).trans x32
  replace k26 : M.2.1 26 = (20, 12) := ((hd.2.2.2 26 (by decide)).1).trans k26
  replace z26 : M.2.2 26 = fun _ => .int 0 := ((hd.2.2.2 26 (by decide)).2).trans z26
  replace x2 : M.2.2 25 2 = .ref 26 := (congrFun (hd.2.2.2 25 (by decide)).2 2).trans x2
  replace k27 : M.2.1 27 = (20, 12) := ((hd.2.2.2 27 (by decide)).1).trans k27
  replace z27 : M.2.2 27 = fun _ => .int 0 := ((hd.2.2.2 27 (by decide)).2).trans z27
  replace x3 : M.2.2 25 3 = .ref 27 := (congrFun (hd.2.2.2 25 (by decide)).2 3).trans x3
  replace k28 : M.2.1 28 = (20, 192) := ((hd.2.2.2 28 (by decide)).1).trans k28
  replace z28 : M.2.2 28 = fun _ => .int 0 := ((hd.2.2.2 28 (by decide)).2).trans z28
  replace x4 : M.2.2 25 4 = .ref 28 := (congrFun (hd.2.2.2 25 (by decide)).2 4).trans x4
  replace k29 : M.2.1 29 = (20, 32) := ((hd.2.2.2 29 (by decide)).1).trans k29
  replace z29 : M.2.2 29 = fun _ => .int 0 := ((hd.2.2.2 29 (by decide)).2).trans z29
  replace x5 : M.2.2 25 5 = .ref 29 := (congrFun (hd.2.2.2 25 (by decide)).2 5).trans x5
  replace k30 : M.2.1 30 = (20, 25) := ((hd.2.2.2 30 (by decide)).1).trans k30
  replace z30 : M.2.2 30 = fun _ => .int 0 := ((hd.2.2.2 30 (by decide)).2).trans z30
  replace x7 : M.2.2 25 7 = .ref 30 := (congrFun (hd.2.2.2 25 (by decide)).2 7).trans x7
  replace hF := hF.nw hd (by decide)
  have k31 : M.2.1 31 = (20, 16) := hd.2.1
  have z31 : M.2.2 31 = fun _ => .int 0 := hd.2.2.1
  replace hM : M.1 = 32 := hd.1
  clear hd
  refine fp_putF 50 dX12_init_50 ckF_RX12_25_12 ckQ_RX12_12_11 rfl kX rfl rfl (fun M hd => ?_)
  replace kX : M.2.1 25 = (12, 33) := (congrFun hd.2.1 25).trans kX
  replace x0 : M.2.2 25 0 = .int 0 := (hd.2.2.2 25 0 (by decide)).trans x0
  replace x1 : M.2.2 25 1 = .int 0 := (hd.2.2.2 25 1 (by decide)).trans x1
  replace x6 : M.2.2 25 6 = .int 0 := (hd.2.2.2 25 6 (by decide)).trans x6
  replace x8 : M.2.2 25 8 = .int 0 := (hd.2.2.2 25 8 (by decide)).trans x8
  replace x9 : M.2.2 25 9 = .int 0 := (hd.2.2.2 25 9 (by decide)).trans x9
  replace x10 : M.2.2 25 10 = .int 0 := (hd.2.2.2 25 10 (by decide)).trans x10
  replace x13 : M.2.2 25 13 = .int 0 := (hd.2.2.2 25 13 (by decide)).trans x13
  replace x23 : M.2.2 25 23 = .int 0 := (hd.2.2.2 25 23 (by decide)).trans x23
  replace x24 : M.2.2 25 24 = .int 0 := (hd.2.2.2 25 24 (by decide)).trans x24
  replace x32 : M.2.2 25 32 = .int 0 := (hd.2.2.2 25 32 (by decide)).trans x32
  replace k26 : M.2.1 26 = (20, 12) := (congrFun hd.2.1 26).trans k26
  replace z26 : M.2.2 26 = fun _ => .int 0 := (hd.toWd.2.2 26 (by decide)).trans z26
  replace x2 : M.2.2 25 2 = .ref 26 := (hd.2.2.2 25 2 (by decide)).trans x2
  replace k27 : M.2.1 27 = (20, 12) := (congrFun hd.2.1 27).trans k27
  replace z27 : M.2.2 27 = fun _ => .int 0 := (hd.toWd.2.2 27 (by decide)).trans z27
  replace x3 : M.2.2 25 3 = .ref 27 := (hd.2.2.2 25 3 (by decide)).trans x3
  replace k28 : M.2.1 28 = (20, 192) := (congrFun hd.2.1 28).trans k28
  replace z28 : M.2.2 28 = fun _ => .int 0 := (hd.toWd.2.2 28 (by decide)).trans z28
  replace x4 : M.2.2 25 4 = .ref 28 := (hd.2.2.2 25 4 (by decide)).trans x4
  replace k29 : M.2.1 29 = (20, 32) := (congrFun hd.2.1 29).trans k29
  replace z29 : M.2.2 29 = fun _ => .int 0 := (hd.toWd.2.2 29 (by decide)).trans z29
  replace x5 : M.2.2 25 5 = .ref 29 := (hd.2.2.2 25 5 (by decide)).trans x5
  replace k30 : M.2.1 30 = (20, 25) := (congrFun hd.2.1 30).trans k30
  replace z30 : M.2.2 30 = fun _ => .int 0 := (hd.toWd.2.2 30 (by decide)).trans z30
  replace x7 : M.2.2 25 7 = .ref 30 := (hd.2.2.2 25 7 (by decide)).trans x7
  replace k31 : M.2.1 31 = (20, 16) := (congrFun hd.2.1 31).trans k31
  replace z31 : M.2.2 31 = fun _ => .int 0 := (hd.toWd.2.2 31 (by decide)).trans z31
  replace hF := hF.wd hd.toWd (by decide)
  replace hM := hd.1.trans hM
  have x11 : M.2.2 25 11 = .ref 31 := hd.2.2.1
  clear hd
  refine aw_aload0 53 dX12_init_53 ?_
  refine aw_bipush 54 16 dX12_init_54 (by decide) ?_
  refine na_new 56 (16) (32) dX12_init_56 rfl (by decide) hM (by decide) (by decide) (fun M hd => ?_)
  replace kX : M.2.1 25 = (12, 33) := ((hd.2.2.2 25 (by decide)).1).trans kX
  replace x0 : M.2.2 25 0 = .int 0 := (congrFun (hd.2.2.2 25 (by decide)).2 0).trans x0
  replace x1 : M.2.2 25 1 = .int 0 := (congrFun (hd.2.2.2 25 (by decide)).2 1).trans x1
  replace x6 : M.2.2 25 6 = .int 0 := (congrFun (hd.2.2.2 25 (by decide)).2 6).trans x6
  replace x8 : M.2.2 25 8 = .int 0 := (congrFun (hd.2.2.2 25 (by decide)).2 8).trans x8
  replace x9 : M.2.2 25 9 = .int 0 := (congrFun (hd.2.2.2 25 (by decide)).2 9).trans x9
  replace x10 : M.2.2 25 10 = .int 0 := (congrFun (hd.2.2.2 25 (by decide)).2 10).trans x10
  replace x13 : M.2.2 25 13 = .int 0 := (congrFun (hd.2.2.2 25 (by decide)).2 13).trans x13
  replace x23 : M.2.2 25 23 = .int 0 := (congrFun (hd.2.2.2 25 (by decide)).2 23).trans x23
  replace x24 : M.2.2 25 24 = .int 0 := (congrFun (hd.2.2.2 25 (by decide)).2 24).trans x24
  replace x32 : M.2.2 25 32 = .int 0 := (congrFun (hd.2.2.2 25 (by decide)).2 32).trans x32
  replace k26 : M.2.1 26 = (20, 12) := ((hd.2.2.2 26 (by decide)).1).trans k26
  replace z26 : M.2.2 26 = fun _ => .int 0 := ((hd.2.2.2 26 (by decide)).2).trans z26
  replace x2 : M.2.2 25 2 = .ref 26 := (congrFun (hd.2.2.2 25 (by decide)).2 2).trans x2
  replace k27 : M.2.1 27 = (20, 12) := ((hd.2.2.2 27 (by decide)).1).trans k27
  replace z27 : M.2.2 27 = fun _ => .int 0 := ((hd.2.2.2 27 (by decide)).2).trans z27
  replace x3 : M.2.2 25 3 = .ref 27 := (congrFun (hd.2.2.2 25 (by decide)).2 3).trans x3
  replace k28 : M.2.1 28 = (20, 192) := ((hd.2.2.2 28 (by decide)).1).trans k28
  replace z28 : M.2.2 28 = fun _ => .int 0 := ((hd.2.2.2 28 (by decide)).2).trans z28
  replace x4 : M.2.2 25 4 = .ref 28 := (congrFun (hd.2.2.2 25 (by decide)).2 4).trans x4
  replace k29 : M.2.1 29 = (20, 32) := ((hd.2.2.2 29 (by decide)).1).trans k29
  replace z29 : M.2.2 29 = fun _ => .int 0 := ((hd.2.2.2 29 (by decide)).2).trans z29
  replace x5 : M.2.2 25 5 = .ref 29 := (congrFun (hd.2.2.2 25 (by decide)).2 5).trans x5
  replace k30 : M.2.1 30 = (20, 25) := ((hd.2.2.2 30 (by decide)).1).trans k30
  replace z30 : M.2.2 30 = fun _ => .int 0 := ((hd.2.2.2 30 (by decide)).2).trans z30
  replace x7 : M.2.2 25 7 = .ref 30 := (congrFun (hd.2.2.2 25 (by decide)).2 7).trans x7
  replace k31 : M.2.1 31 = (20, 16) := ((hd.2.2.2 31 (by decide)).1).trans k31
  replace z31 : M.2.2 31 = fun _ => .int 0 := ((hd.2.2.2 31 (by decide)).2).trans z31
  replace x11 : M.2.2 25 11 = .ref 31 := (congrFun (hd.2.2.2 25 (by decide)).2 11).trans x11
  replace hF := hF.nw hd (by decide)
  have k32 : M.2.1 32 = (20, 16) := hd.2.1
  have z32 : M.2.2 32 = fun _ => .int 0 := hd.2.2.1
  replace hM : M.1 = 33 := hd.1
  clear hd
  refine fp_putF 58 dX12_init_58 ckF_RX12_28_12 ckQ_RX12_12_12 rfl kX rfl rfl (fun M hd => ?_)
  replace kX : M.2.1 25 = (12, 33) := (congrFun hd.2.1 25).trans kX
  replace x0 : M.2.2 25 0 = .int 0 := (hd.2.2.2 25 0 (by decide)).trans x0
  replace x1 : M.2.2 25 1 = .int 0 := (hd.2.2.2 25 1 (by decide)).trans x1
  replace x6 : M.2.2 25 6 = .int 0 := (hd.2.2.2 25 6 (by decide)).trans x6
  replace x8 : M.2.2 25 8 = .int 0 := (hd.2.2.2 25 8 (by decide)).trans x8
  replace x9 : M.2.2 25 9 = .int 0 := (hd.2.2.2 25 9 (by decide)).trans x9
  replace x10 : M.2.2 25 10 = .int 0 := (hd.2.2.2 25 10 (by decide)).trans x10
  replace x13 : M.2.2 25 13 = .int 0 := (hd.2.2.2 25 13 (by decide)).trans x13
  replace x23 : M.2.2 25 23 = .int 0 := (hd.2.2.2 25 23 (by decide)).trans x23
  replace x24 : M.2.2 25 24 = .int 0 := (hd.2.2.2 25 24 (by decide)).trans x24
  replace x32 : M.2.2 25 32 = .int 0 := (hd.2.2.2 25 32 (by decide)).trans x32
  replace k26 : M.2.1 26 = (20, 12) := (congrFun hd.2.1 26).trans k26
  replace z26 : M.2.2 26 = fun _ => .int 0 := (hd.toWd.2.2 26 (by decide)).trans z26
  replace x2 : M.2.2 25 2 = .ref 26 := (hd.2.2.2 25 2 (by decide)).trans x2
  replace k27 : M.2.1 27 = (20, 12) := (congrFun hd.2.1 27).trans k27
  replace z27 : M.2.2 27 = fun _ => .int 0 := (hd.toWd.2.2 27 (by decide)).trans z27
  replace x3 : M.2.2 25 3 = .ref 27 := (hd.2.2.2 25 3 (by decide)).trans x3
  replace k28 : M.2.1 28 = (20, 192) := (congrFun hd.2.1 28).trans k28
  replace z28 : M.2.2 28 = fun _ => .int 0 := (hd.toWd.2.2 28 (by decide)).trans z28
  replace x4 : M.2.2 25 4 = .ref 28 := (hd.2.2.2 25 4 (by decide)).trans x4
  replace k29 : M.2.1 29 = (20, 32) := (congrFun hd.2.1 29).trans k29
  replace z29 : M.2.2 29 = fun _ => .int 0 := (hd.toWd.2.2 29 (by decide)).trans z29
  replace x5 : M.2.2 25 5 = .ref 29 := (hd.2.2.2 25 5 (by decide)).trans x5
  replace k30 : M.2.1 30 = (20, 25) := (congrFun hd.2.1 30).trans k30
  replace z30 : M.2.2 30 = fun _ => .int 0 := (hd.toWd.2.2 30 (by decide)).trans z30
  replace x7 : M.2.2 25 7 = .ref 30 := (hd.2.2.2 25 7 (by decide)).trans x7
  replace k31 : M.2.1 31 = (20, 16) := (congrFun hd.2.1 31).trans k31
  replace z31 : M.2.2 31 = fun _ => .int 0 := (hd.toWd.2.2 31 (by decide)).trans z31
  replace x11 : M.2.2 25 11 = .ref 31 := (hd.2.2.2 25 11 (by decide)).trans x11
  replace k32 : M.2.1 32 = (20, 16) := (congrFun hd.2.1 32).trans k32
  replace z32 : M.2.2 32 = fun _ => .int 0 := (hd.toWd.2.2 32 (by decide)).trans z32
  replace hF := hF.wd hd.toWd (by decide)
  replace hM := hd.1.trans hM
  have x12 : M.2.2 25 12 = .ref 32 := hd.2.2.1
  clear hd
  refine aw_aload0 61 dX12_init_61 ?_
  refine aw_bipush 62 6 dX12_init_62 (by decide) ?_
  refine na_new 64 (6) (33) dX12_init_64 rfl (by decide) hM (by decide) (by decide) (fun M hd => ?_)
  replace kX : M.2.1 25 = (12, 33) := ((hd.2.2.2 25 (by decide)).1).trans kX
  replace x0 : M.2.2 25 0 = .int 0 := (congrFun (hd.2.2.2 25 (by decide)).2 0).trans x0
  replace x1 : M.2.2 25 1 = .int 0 := (congrFun (hd.2.2.2 25 (by decide)).2 1).trans x1
  replace x6 : M.2.2 25 6 = .int 0 := (congrFun (hd.2.2.2 25 (by decide)).2 6).trans x6
  replace x8 : M.2.2 25 8 = .int 0 := (congrFun (hd.2.2.2 25 (by decide)).2 8).trans x8
  replace x9 : M.2.2 25 9 = .int 0 := (congrFun (hd.2.2.2 25 (by decide)).2 9).trans x9
  replace x10 : M.2.2 25 10 = .int 0 := (congrFun (hd.2.2.2 25 (by decide)).2 10).trans x10
  replace x13 : M.2.2 25 13 = .int 0 := (congrFun (hd.2.2.2 25 (by decide)).2 13).trans x13
  replace x23 : M.2.2 25 23 = .int 0 := (congrFun (hd.2.2.2 25 (by decide)).2 23).trans x23
  replace x24 : M.2.2 25 24 = .int 0 := (congrFun (hd.2.2.2 25 (by decide)).2 24).trans x24
  replace x32 : M.2.2 25 32 = .int 0 := (congrFun (hd.2.2.2 25 (by decide)).2 32).trans x32
  replace k26 : M.2.1 26 = (20, 12) := ((hd.2.2.2 26 (by decide)).1).trans k26
  replace z26 : M.2.2 26 = fun _ => .int 0 := ((hd.2.2.2 26 (by decide)).2).trans z26
  replace x2 : M.2.2 25 2 = .ref 26 := (congrFun (hd.2.2.2 25 (by decide)).2 2).trans x2
  replace k27 : M.2.1 27 = (20, 12) := ((hd.2.2.2 27 (by decide)).1).trans k27
  replace z27 : M.2.2 27 = fun _ => .int 0 := ((hd.2.2.2 27 (by decide)).2).trans z27
  replace x3 : M.2.2 25 3 = .ref 27 := (congrFun (hd.2.2.2 25 (by decide)).2 3).trans x3
  replace k28 : M.2.1 28 = (20, 192) := ((hd.2.2.2 28 (by decide)).1).trans k28
  replace z28 : M.2.2 28 = fun _ => .int 0 := ((hd.2.2.2 28 (by decide)).2).trans z28
  replace x4 : M.2.2 25 4 = .ref 28 := (congrFun (hd.2.2.2 25 (by decide)).2 4).trans x4
  replace k29 : M.2.1 29 = (20, 32) := ((hd.2.2.2 29 (by decide)).1).trans k29
  replace z29 : M.2.2 29 = fun _ => .int 0 := ((hd.2.2.2 29 (by decide)).2).trans z29
  replace x5 : M.2.2 25 5 = .ref 29 := (congrFun (hd.2.2.2 25 (by decide)).2 5).trans x5
  replace k30 : M.2.1 30 = (20, 25) := ((hd.2.2.2 30 (by decide)).1).trans k30
  replace z30 : M.2.2 30 = fun _ => .int 0 := ((hd.2.2.2 30 (by decide)).2).trans z30
  replace x7 : M.2.2 25 7 = .ref 30 := (congrFun (hd.2.2.2 25 (by decide)).2 7).trans x7
  replace k31 : M.2.1 31 = (20, 16) := ((hd.2.2.2 31 (by decide)).1).trans k31
  replace z31 : M.2.2 31 = fun _ => .int 0 := ((hd.2.2.2 31 (by decide)).2).trans z31
  replace x11 : M.2.2 25 11 = .ref 31 := (congrFun (hd.2.2.2 25 (by decide)).2 11).trans x11
  replace k32 : M.2.1 32 = (20, 16) := ((hd.2.2.2 32 (by decide)).1).trans k32
  replace z32 : M.2.2 32 = fun _ => .int 0 := ((hd.2.2.2 32 (by decide)).2).trans z32
  replace x12 : M.2.2 25 12 = .ref 32 := (congrFun (hd.2.2.2 25 (by decide)).2 12).trans x12
  replace hF := hF.nw hd (by decide)
  have k33 : M.2.1 33 = (20, 6) := hd.2.1
  have z33 : M.2.2 33 = fun _ => .int 0 := hd.2.2.1
  replace hM : M.1 = 34 := hd.1
  clear hd
  refine fp_putF 66 dX12_init_66 ckF_RX12_31_12 ckQ_RX12_12_14 rfl kX rfl rfl (fun M hd => ?_)
  replace kX : M.2.1 25 = (12, 33) := (congrFun hd.2.1 25).trans kX
  replace x0 : M.2.2 25 0 = .int 0 := (hd.2.2.2 25 0 (by decide)).trans x0
  replace x1 : M.2.2 25 1 = .int 0 := (hd.2.2.2 25 1 (by decide)).trans x1
  replace x6 : M.2.2 25 6 = .int 0 := (hd.2.2.2 25 6 (by decide)).trans x6
  replace x8 : M.2.2 25 8 = .int 0 := (hd.2.2.2 25 8 (by decide)).trans x8
  replace x9 : M.2.2 25 9 = .int 0 := (hd.2.2.2 25 9 (by decide)).trans x9
  replace x10 : M.2.2 25 10 = .int 0 := (hd.2.2.2 25 10 (by decide)).trans x10
  replace x13 : M.2.2 25 13 = .int 0 := (hd.2.2.2 25 13 (by decide)).trans x13
  replace x23 : M.2.2 25 23 = .int 0 := (hd.2.2.2 25 23 (by decide)).trans x23
  replace x24 : M.2.2 25 24 = .int 0 := (hd.2.2.2 25 24 (by decide)).trans x24
  replace x32 : M.2.2 25 32 = .int 0 := (hd.2.2.2 25 32 (by decide)).trans x32
  replace k26 : M.2.1 26 = (20, 12) := (congrFun hd.2.1 26).trans k26
  replace z26 : M.2.2 26 = fun _ => .int 0 := (hd.toWd.2.2 26 (by decide)).trans z26
  replace x2 : M.2.2 25 2 = .ref 26 := (hd.2.2.2 25 2 (by decide)).trans x2
  replace k27 : M.2.1 27 = (20, 12) := (congrFun hd.2.1 27).trans k27
  replace z27 : M.2.2 27 = fun _ => .int 0 := (hd.toWd.2.2 27 (by decide)).trans z27
  replace x3 : M.2.2 25 3 = .ref 27 := (hd.2.2.2 25 3 (by decide)).trans x3
  replace k28 : M.2.1 28 = (20, 192) := (congrFun hd.2.1 28).trans k28
  replace z28 : M.2.2 28 = fun _ => .int 0 := (hd.toWd.2.2 28 (by decide)).trans z28
  replace x4 : M.2.2 25 4 = .ref 28 := (hd.2.2.2 25 4 (by decide)).trans x4
  replace k29 : M.2.1 29 = (20, 32) := (congrFun hd.2.1 29).trans k29
  replace z29 : M.2.2 29 = fun _ => .int 0 := (hd.toWd.2.2 29 (by decide)).trans z29
  replace x5 : M.2.2 25 5 = .ref 29 := (hd.2.2.2 25 5 (by decide)).trans x5
  replace k30 : M.2.1 30 = (20, 25) := (congrFun hd.2.1 30).trans k30
  replace z30 : M.2.2 30 = fun _ => .int 0 := (hd.toWd.2.2 30 (by decide)).trans z30
  replace x7 : M.2.2 25 7 = .ref 30 := (hd.2.2.2 25 7 (by decide)).trans x7
  replace k31 : M.2.1 31 = (20, 16) := (congrFun hd.2.1 31).trans k31
  replace z31 : M.2.2 31 = fun _ => .int 0 := (hd.toWd.2.2 31 (by decide)).trans z31
  replace x11 : M.2.2 25 11 = .ref 31 := (hd.2.2.2 25 11 (by decide)).trans x11
  replace k32 : M.2.1 32 = (20, 16) := (congrFun hd.2.1 32).trans k32
  replace z32 : M.2.2 32 = fun _ => .int 0 := (hd.toWd.2.2 32 (by decide)).trans z32
  replace x12 : M.2.2 25 12 = .ref 32 := (hd.2.2.2 25 12 (by decide)).trans x12
  replace k33 : M.2.1 33 = (20, 6) := (congrFun hd.2.1 33).trans k33
  replace z33 : M.2.2 33 = fun _ => .int 0 := (hd.toWd.2.2 33 (by decide)).trans z33
  replace hF := hF.wd hd.toWd (by decide)
  replace hM := hd.1.trans hM
  have x14 : M.2.2 25 14 = .ref 33 := hd.2.2.1
  clear hd
  refine aw_aload0 69 dX12_init_69 ?_
  refine aw_bipush 70 6 dX12_init_70 (by decide) ?_
  refine na_new 72 (6) (34) dX12_init_72 rfl (by decide) hM (by decide) (by decide) (fun M hd => ?_)
  replace kX : M.2.1 25 = (12, 33) := ((hd.2.2.2 25 (by decide)).1).trans kX
  replace x0 : M.2.2 25 0 = .int 0 := (congrFun (hd.2.2.2 25 (by decide)).2 0).trans x0
  replace x1 : M.2.2 25 1 = .int 0 := (congrFun (hd.2.2.2 25 (by decide)).2 1).trans x1
  replace x6 : M.2.2 25 6 = .int 0 := (congrFun (hd.2.2.2 25 (by decide)).2 6).trans x6
  replace x8 : M.2.2 25 8 = .int 0 := (congrFun (hd.2.2.2 25 (by decide)).2 8).trans x8
  replace x9 : M.2.2 25 9 = .int 0 := (congrFun (hd.2.2.2 25 (by decide)).2 9).trans x9
  replace x10 : M.2.2 25 10 = .int 0 := (congrFun (hd.2.2.2 25 (by decide)).2 10).trans x10
  replace x13 : M.2.2 25 13 = .int 0 := (congrFun (hd.2.2.2 25 (by decide)).2 13).trans x13
  replace x23 : M.2.2 25 23 = .int 0 := (congrFun (hd.2.2.2 25 (by decide)).2 23).trans x23
  replace x24 : M.2.2 25 24 = .int 0 := (congrFun (hd.2.2.2 25 (by decide)).2 24).trans x24
  replace x32 : M.2.2 25 32 = .int 0 := (congrFun (hd.2.2.2 25 (by decide)).2 32).trans x32
  replace k26 : M.2.1 26 = (20, 12) := ((hd.2.2.2 26 (by decide)).1).trans k26
  replace z26 : M.2.2 26 = fun _ => .int 0 := ((hd.2.2.2 26 (by decide)).2).trans z26
  replace x2 : M.2.2 25 2 = .ref 26 := (congrFun (hd.2.2.2 25 (by decide)).2 2).trans x2
  replace k27 : M.2.1 27 = (20, 12) := ((hd.2.2.2 27 (by decide)).1).trans k27
  replace z27 : M.2.2 27 = fun _ => .int 0 := ((hd.2.2.2 27 (by decide)).2).trans z27
  replace x3 : M.2.2 25 3 = .ref 27 := (congrFun (hd.2.2.2 25 (by decide)).2 3).trans x3
  replace k28 : M.2.1 28 = (20, 192) := ((hd.2.2.2 28 (by decide)).1).trans k28
  replace z28 : M.2.2 28 = fun _ => .int 0 := ((hd.2.2.2 28 (by decide)).2).trans z28
  replace x4 : M.2.2 25 4 = .ref 28 := (congrFun (hd.2.2.2 25 (by decide)).2 4).trans x4
  replace k29 : M.2.1 29 = (20, 32) := ((hd.2.2.2 29 (by decide)).1).trans k29
  replace z29 : M.2.2 29 = fun _ => .int 0 := ((hd.2.2.2 29 (by decide)).2).trans z29
  replace x5 : M.2.2 25 5 = .ref 29 := (congrFun (hd.2.2.2 25 (by decide)).2 5).trans x5
  replace k30 : M.2.1 30 = (20, 25) := ((hd.2.2.2 30 (by decide)).1).trans k30
  replace z30 : M.2.2 30 = fun _ => .int 0 := ((hd.2.2.2 30 (by decide)).2).trans z30
  replace x7 : M.2.2 25 7 = .ref 30 := (congrFun (hd.2.2.2 25 (by decide)).2 7).trans x7
  replace k31 : M.2.1 31 = (20, 16) := ((hd.2.2.2 31 (by decide)).1).trans k31
  replace z31 : M.2.2 31 = fun _ => .int 0 := ((hd.2.2.2 31 (by decide)).2).trans z31
  replace x11 : M.2.2 25 11 = .ref 31 := (congrFun (hd.2.2.2 25 (by decide)).2 11).trans x11
  replace k32 : M.2.1 32 = (20, 16) := ((hd.2.2.2 32 (by decide)).1).trans k32
  replace z32 : M.2.2 32 = fun _ => .int 0 := ((hd.2.2.2 32 (by decide)).2).trans z32
  replace x12 : M.2.2 25 12 = .ref 32 := (congrFun (hd.2.2.2 25 (by decide)).2 12).trans x12
  replace k33 : M.2.1 33 = (20, 6) := ((hd.2.2.2 33 (by decide)).1).trans k33
  replace z33 : M.2.2 33 = fun _ => .int 0 := ((hd.2.2.2 33 (by decide)).2).trans z33
  replace x14 : M.2.2 25 14 = .ref 33 := (congrFun (hd.2.2.2 25 (by decide)).2 14).trans x14
  replace hF := hF.nw hd (by decide)
  have k34 : M.2.1 34 = (20, 6) := hd.2.1
  have z34 : M.2.2 34 = fun _ => .int 0 := hd.2.2.1
  replace hM : M.1 = 35 := hd.1
  clear hd
  refine fp_putF 74 dX12_init_74 ckF_RX12_34_12 ckQ_RX12_12_15 rfl kX rfl rfl (fun M hd => ?_)
  replace kX : M.2.1 25 = (12, 33) := (congrFun hd.2.1 25).trans kX
  replace x0 : M.2.2 25 0 = .int 0 := (hd.2.2.2 25 0 (by decide)).trans x0
  replace x1 : M.2.2 25 1 = .int 0 := (hd.2.2.2 25 1 (by decide)).trans x1
  replace x6 : M.2.2 25 6 = .int 0 := (hd.2.2.2 25 6 (by decide)).trans x6
  replace x8 : M.2.2 25 8 = .int 0 := (hd.2.2.2 25 8 (by decide)).trans x8
  replace x9 : M.2.2 25 9 = .int 0 := (hd.2.2.2 25 9 (by decide)).trans x9
  replace x10 : M.2.2 25 10 = .int 0 := (hd.2.2.2 25 10 (by decide)).trans x10
  replace x13 : M.2.2 25 13 = .int 0 := (hd.2.2.2 25 13 (by decide)).trans x13
  replace x23 : M.2.2 25 23 = .int 0 := (hd.2.2.2 25 23 (by decide)).trans x23
  replace x24 : M.2.2 25 24 = .int 0 := (hd.2.2.2 25 24 (by decide)).trans x24
  replace x32 : M.2.2 25 32 = .int 0 := (hd.2.2.2 25 32 (by decide)).trans x32
  replace k26 : M.2.1 26 = (20, 12) := (congrFun hd.2.1 26).trans k26
  replace z26 : M.2.2 26 = fun _ => .int 0 := (hd.toWd.2.2 26 (by decide)).trans z26
  replace x2 : M.2.2 25 2 = .ref 26 := (hd.2.2.2 25 2 (by decide)).trans x2
  replace k27 : M.2.1 27 = (20, 12) := (congrFun hd.2.1 27).trans k27
  replace z27 : M.2.2 27 = fun _ => .int 0 := (hd.toWd.2.2 27 (by decide)).trans z27
  replace x3 : M.2.2 25 3 = .ref 27 := (hd.2.2.2 25 3 (by decide)).trans x3
  replace k28 : M.2.1 28 = (20, 192) := (congrFun hd.2.1 28).trans k28
  replace z28 : M.2.2 28 = fun _ => .int 0 := (hd.toWd.2.2 28 (by decide)).trans z28
  replace x4 : M.2.2 25 4 = .ref 28 := (hd.2.2.2 25 4 (by decide)).trans x4
  replace k29 : M.2.1 29 = (20, 32) := (congrFun hd.2.1 29).trans k29
  replace z29 : M.2.2 29 = fun _ => .int 0 := (hd.toWd.2.2 29 (by decide)).trans z29
  replace x5 : M.2.2 25 5 = .ref 29 := (hd.2.2.2 25 5 (by decide)).trans x5
  replace k30 : M.2.1 30 = (20, 25) := (congrFun hd.2.1 30).trans k30
  replace z30 : M.2.2 30 = fun _ => .int 0 := (hd.toWd.2.2 30 (by decide)).trans z30
  replace x7 : M.2.2 25 7 = .ref 30 := (hd.2.2.2 25 7 (by decide)).trans x7
  replace k31 : M.2.1 31 = (20, 16) := (congrFun hd.2.1 31).trans k31
  replace z31 : M.2.2 31 = fun _ => .int 0 := (hd.toWd.2.2 31 (by decide)).trans z31
  replace x11 : M.2.2 25 11 = .ref 31 := (hd.2.2.2 25 11 (by decide)).trans x11
  replace k32 : M.2.1 32 = (20, 16) := (congrFun hd.2.1 32).trans k32
  replace z32 : M.2.2 32 = fun _ => .int 0 := (hd.toWd.2.2 32 (by decide)).trans z32
  replace x12 : M.2.2 25 12 = .ref 32 := (hd.2.2.2 25 12 (by decide)).trans x12
  replace k33 : M.2.1 33 = (20, 6) := (congrFun hd.2.1 33).trans k33
  replace z33 : M.2.2 33 = fun _ => .int 0 := (hd.toWd.2.2 33 (by decide)).trans z33
  replace x14 : M.2.2 25 14 = .ref 33 := (hd.2.2.2 25 14 (by decide)).trans x14
  replace k34 : M.2.1 34 = (20, 6) := (congrFun hd.2.1 34).trans k34
  replace z34 : M.2.2 34 = fun _ => .int 0 := (hd.toWd.2.2 34 (by decide)).trans z34
  replace hF := hF.wd hd.toWd (by decide)
  replace hM := hd.1.trans hM
  have x15 : M.2.2 25 15 = .ref 34 := hd.2.2.1
  clear hd
  refine aw_aload0 77 dX12_init_77 ?_
  refine aw_bipush 78 12 dX12_init_78 (by decide) ?_
  refine na_new 80 (12) (35) dX12_init_80 rfl (by decide) hM (by decide) (by decide) (fun M hd => ?_)
  replace kX : M.2.1 25 = (12, 33) := ((hd.2.2.2 25 (by decide)).1).trans kX
  replace x0 : M.2.2 25 0 = .int 0 := (congrFun (hd.2.2.2 25 (by decide)).2 0).trans x0
  replace x1 : M.2.2 25 1 = .int 0 := (congrFun (hd.2.2.2 25 (by decide)).2 1).trans x1
  replace x6 : M.2.2 25 6 = .int 0 := (congrFun (hd.2.2.2 25 (by decide)).2 6).trans x6
  replace x8 : M.2.2 25 8 = .int 0 := (congrFun (hd.2.2.2 25 (by decide)).2 8).trans x8
  replace x9 : M.2.2 25 9 = .int 0 := (congrFun (hd.2.2.2 25 (by decide)).2 9).trans x9
  replace x10 : M.2.2 25 10 = .int 0 := (congrFun (hd.2.2.2 25 (by decide)).2 10).trans x10
  replace x13 : M.2.2 25 13 = .int 0 := (congrFun (hd.2.2.2 25 (by decide)).2 13).trans x13
  replace x23 : M.2.2 25 23 = .int 0 := (congrFun (hd.2.2.2 25 (by decide)).2 23).trans x23
  replace x24 : M.2.2 25 24 = .int 0 := (congrFun (hd.2.2.2 25 (by decide)).2 24).trans x24
  replace x32 : M.2.2 25 32 = .int 0 := (congrFun (hd.2.2.2 25 (by decide)).2 32).trans x32
  replace k26 : M.2.1 26 = (20, 12) := ((hd.2.2.2 26 (by decide)).1).trans k26
  replace z26 : M.2.2 26 = fun _ => .int 0 := ((hd.2.2.2 26 (by decide)).2).trans z26
  replace x2 : M.2.2 25 2 = .ref 26 := (congrFun (hd.2.2.2 25 (by decide)).2 2).trans x2
  replace k27 : M.2.1 27 = (20, 12) := ((hd.2.2.2 27 (by decide)).1).trans k27
  replace z27 : M.2.2 27 = fun _ => .int 0 := ((hd.2.2.2 27 (by decide)).2).trans z27
  replace x3 : M.2.2 25 3 = .ref 27 := (congrFun (hd.2.2.2 25 (by decide)).2 3).trans x3
  replace k28 : M.2.1 28 = (20, 192) := ((hd.2.2.2 28 (by decide)).1).trans k28
  replace z28 : M.2.2 28 = fun _ => .int 0 := ((hd.2.2.2 28 (by decide)).2).trans z28
  replace x4 : M.2.2 25 4 = .ref 28 := (congrFun (hd.2.2.2 25 (by decide)).2 4).trans x4
  replace k29 : M.2.1 29 = (20, 32) := ((hd.2.2.2 29 (by decide)).1).trans k29
  replace z29 : M.2.2 29 = fun _ => .int 0 := ((hd.2.2.2 29 (by decide)).2).trans z29
  replace x5 : M.2.2 25 5 = .ref 29 := (congrFun (hd.2.2.2 25 (by decide)).2 5).trans x5
  replace k30 : M.2.1 30 = (20, 25) := ((hd.2.2.2 30 (by decide)).1).trans k30
  replace z30 : M.2.2 30 = fun _ => .int 0 := ((hd.2.2.2 30 (by decide)).2).trans z30
  replace x7 : M.2.2 25 7 = .ref 30 := (congrFun (hd.2.2.2 25 (by decide)).2 7).trans x7
  replace k31 : M.2.1 31 = (20, 16) := ((hd.2.2.2 31 (by decide)).1).trans k31
  replace z31 : M.2.2 31 = fun _ => .int 0 := ((hd.2.2.2 31 (by decide)).2).trans z31
  replace x11 : M.2.2 25 11 = .ref 31 := (congrFun (hd.2.2.2 25 (by decide)).2 11).trans x11
  replace k32 : M.2.1 32 = (20, 16) := ((hd.2.2.2 32 (by decide)).1).trans k32
  replace z32 : M.2.2 32 = fun _ => .int 0 := ((hd.2.2.2 32 (by decide)).2).trans z32
  replace x12 : M.2.2 25 12 = .ref 32 := (congrFun (hd.2.2.2 25 (by decide)).2 12).trans x12
  replace k33 : M.2.1 33 = (20, 6) := ((hd.2.2.2 33 (by decide)).1).trans k33
  replace z33 : M.2.2 33 = fun _ => .int 0 := ((hd.2.2.2 33 (by decide)).2).trans z33
  replace x14 : M.2.2 25 14 = .ref 33 := (congrFun (hd.2.2.2 25 (by decide)).2 14).trans x14
  replace k34 : M.2.1 34 = (20, 6) := ((hd.2.2.2 34 (by decide)).1).trans k34
  replace z34 : M.2.2 34 = fun _ => .int 0 := ((hd.2.2.2 34 (by decide)).2).trans z34
  replace x15 : M.2.2 25 15 = .ref 34 := (congrFun (hd.2.2.2 25 (by decide)).2 15).trans x15
  replace hF := hF.nw hd (by decide)
  have k35 : M.2.1 35 = (20, 12) := hd.2.1
  have z35 : M.2.2 35 = fun _ => .int 0 := hd.2.2.1
  replace hM : M.1 = 36 := hd.1
  clear hd
  refine fp_putF 82 dX12_init_82 ckF_RX12_37_12 ckQ_RX12_12_16 rfl kX rfl rfl (fun M hd => ?_)
  replace kX : M.2.1 25 = (12, 33) := (congrFun hd.2.1 25).trans kX
  replace x0 : M.2.2 25 0 = .int 0 := (hd.2.2.2 25 0 (by decide)).trans x0
  replace x1 : M.2.2 25 1 = .int 0 := (hd.2.2.2 25 1 (by decide)).trans x1
  replace x6 : M.2.2 25 6 = .int 0 := (hd.2.2.2 25 6 (by decide)).trans x6
  replace x8 : M.2.2 25 8 = .int 0 := (hd.2.2.2 25 8 (by decide)).trans x8
  replace x9 : M.2.2 25 9 = .int 0 := (hd.2.2.2 25 9 (by decide)).trans x9
  replace x10 : M.2.2 25 10 = .int 0 := (hd.2.2.2 25 10 (by decide)).trans x10
  replace x13 : M.2.2 25 13 = .int 0 := (hd.2.2.2 25 13 (by decide)).trans x13
  replace x23 : M.2.2 25 23 = .int 0 := (hd.2.2.2 25 23 (by decide)).trans x23
  replace x24 : M.2.2 25 24 = .int 0 := (hd.2.2.2 25 24 (by decide)).trans x24
  replace x32 : M.2.2 25 32 = .int 0 := (hd.2.2.2 25 32 (by decide)).trans x32
  replace k26 : M.2.1 26 = (20, 12) := (congrFun hd.2.1 26).trans k26
  replace z26 : M.2.2 26 = fun _ => .int 0 := (hd.toWd.2.2 26 (by decide)).trans z26
  replace x2 : M.2.2 25 2 = .ref 26 := (hd.2.2.2 25 2 (by decide)).trans x2
  replace k27 : M.2.1 27 = (20, 12) := (congrFun hd.2.1 27).trans k27
  replace z27 : M.2.2 27 = fun _ => .int 0 := (hd.toWd.2.2 27 (by decide)).trans z27
  replace x3 : M.2.2 25 3 = .ref 27 := (hd.2.2.2 25 3 (by decide)).trans x3
  replace k28 : M.2.1 28 = (20, 192) := (congrFun hd.2.1 28).trans k28
  replace z28 : M.2.2 28 = fun _ => .int 0 := (hd.toWd.2.2 28 (by decide)).trans z28
  replace x4 : M.2.2 25 4 = .ref 28 := (hd.2.2.2 25 4 (by decide)).trans x4
  replace k29 : M.2.1 29 = (20, 32) := (congrFun hd.2.1 29).trans k29
  replace z29 : M.2.2 29 = fun _ => .int 0 := (hd.toWd.2.2 29 (by decide)).trans z29
  replace x5 : M.2.2 25 5 = .ref 29 := (hd.2.2.2 25 5 (by decide)).trans x5
  replace k30 : M.2.1 30 = (20, 25) := (congrFun hd.2.1 30).trans k30
  replace z30 : M.2.2 30 = fun _ => .int 0 := (hd.toWd.2.2 30 (by decide)).trans z30
  replace x7 : M.2.2 25 7 = .ref 30 := (hd.2.2.2 25 7 (by decide)).trans x7
  replace k31 : M.2.1 31 = (20, 16) := (congrFun hd.2.1 31).trans k31
  replace z31 : M.2.2 31 = fun _ => .int 0 := (hd.toWd.2.2 31 (by decide)).trans z31
  replace x11 : M.2.2 25 11 = .ref 31 := (hd.2.2.2 25 11 (by decide)).trans x11
  replace k32 : M.2.1 32 = (20, 16) := (congrFun hd.2.1 32).trans k32
  replace z32 : M.2.2 32 = fun _ => .int 0 := (hd.toWd.2.2 32 (by decide)).trans z32
  replace x12 : M.2.2 25 12 = .ref 32 := (hd.2.2.2 25 12 (by decide)).trans x12
  replace k33 : M.2.1 33 = (20, 6) := (congrFun hd.2.1 33).trans k33
  replace z33 : M.2.2 33 = fun _ => .int 0 := (hd.toWd.2.2 33 (by decide)).trans z33
  replace x14 : M.2.2 25 14 = .ref 33 := (hd.2.2.2 25 14 (by decide)).trans x14
  replace k34 : M.2.1 34 = (20, 6) := (congrFun hd.2.1 34).trans k34
  replace z34 : M.2.2 34 = fun _ => .int 0 := (hd.toWd.2.2 34 (by decide)).trans z34
  replace x15 : M.2.2 25 15 = .ref 34 := (hd.2.2.2 25 15 (by decide)).trans x15
  replace k35 : M.2.1 35 = (20, 12) := (congrFun hd.2.1 35).trans k35
  replace z35 : M.2.2 35 = fun _ => .int 0 := (hd.toWd.2.2 35 (by decide)).trans z35
  replace hF := hF.wd hd.toWd (by decide)
  replace hM := hd.1.trans hM
  have x16 : M.2.2 25 16 = .ref 35 := hd.2.2.1
  clear hd
  refine aw_aload0 85 dX12_init_85 ?_
  refine aw_bipush 86 12 dX12_init_86 (by decide) ?_
  refine na_new 88 (12) (36) dX12_init_88 rfl (by decide) hM (by decide) (by decide) (fun M hd => ?_)
  replace kX : M.2.1 25 = (12, 33) := ((hd.2.2.2 25 (by decide)).1).trans kX
  replace x0 : M.2.2 25 0 = .int 0 := (congrFun (hd.2.2.2 25 (by decide)).2 0).trans x0
  replace x1 : M.2.2 25 1 = .int 0 := (congrFun (hd.2.2.2 25 (by decide)).2 1).trans x1
  replace x6 : M.2.2 25 6 = .int 0 := (congrFun (hd.2.2.2 25 (by decide)).2 6).trans x6
  replace x8 : M.2.2 25 8 = .int 0 := (congrFun (hd.2.2.2 25 (by decide)).2 8).trans x8
  replace x9 : M.2.2 25 9 = .int 0 := (congrFun (hd.2.2.2 25 (by decide)).2 9).trans x9
  replace x10 : M.2.2 25 10 = .int 0 := (congrFun (hd.2.2.2 25 (by decide)).2 10).trans x10
  replace x13 : M.2.2 25 13 = .int 0 := (congrFun (hd.2.2.2 25 (by decide)).2 13).trans x13
  replace x23 : M.2.2 25 23 = .int 0 := (congrFun (hd.2.2.2 25 (by decide)).2 23).trans x23
  replace x24 : M.2.2 25 24 = .int 0 := (congrFun (hd.2.2.2 25 (by decide)).2 24).trans x24
  replace x32 : M.2.2 25 32 = .int 0 := (congrFun (hd.2.2.2 25 (by decide)).2 32).trans x32
  replace k26 : M.2.1 26 = (20, 12) := ((hd.2.2.2 26 (by decide)).1).trans k26
  replace z26 : M.2.2 26 = fun _ => .int 0 := ((hd.2.2.2 26 (by decide)).2).trans z26
  replace x2 : M.2.2 25 2 = .ref 26 := (congrFun (hd.2.2.2 25 (by decide)).2 2).trans x2
  replace k27 : M.2.1 27 = (20, 12) := ((hd.2.2.2 27 (by decide)).1).trans k27
  replace z27 : M.2.2 27 = fun _ => .int 0 := ((hd.2.2.2 27 (by decide)).2).trans z27
  replace x3 : M.2.2 25 3 = .ref 27 := (congrFun (hd.2.2.2 25 (by decide)).2 3).trans x3
  replace k28 : M.2.1 28 = (20, 192) := ((hd.2.2.2 28 (by decide)).1).trans k28
  replace z28 : M.2.2 28 = fun _ => .int 0 := ((hd.2.2.2 28 (by decide)).2).trans z28
  replace x4 : M.2.2 25 4 = .ref 28 := (congrFun (hd.2.2.2 25 (by decide)).2 4).trans x4
  replace k29 : M.2.1 29 = (20, 32) := ((hd.2.2.2 29 (by decide)).1).trans k29
  replace z29 : M.2.2 29 = fun _ => .int 0 := ((hd.2.2.2 29 (by decide)).2).trans z29
  replace x5 : M.2.2 25 5 = .ref 29 := (congrFun (hd.2.2.2 25 (by decide)).2 5).trans x5
  replace k30 : M.2.1 30 = (20, 25) := ((hd.2.2.2 30 (by decide)).1).trans k30
  replace z30 : M.2.2 30 = fun _ => .int 0 := ((hd.2.2.2 30 (by decide)).2).trans z30
  replace x7 : M.2.2 25 7 = .ref 30 := (congrFun (hd.2.2.2 25 (by decide)).2 7).trans x7
  replace k31 : M.2.1 31 = (20, 16) := ((hd.2.2.2 31 (by decide)).1).trans k31
  replace z31 : M.2.2 31 = fun _ => .int 0 := ((hd.2.2.2 31 (by decide)).2).trans z31
  replace x11 : M.2.2 25 11 = .ref 31 := (congrFun (hd.2.2.2 25 (by decide)).2 11).trans x11
  replace k32 : M.2.1 32 = (20, 16) := ((hd.2.2.2 32 (by decide)).1).trans k32
  replace z32 : M.2.2 32 = fun _ => .int 0 := ((hd.2.2.2 32 (by decide)).2).trans z32
  replace x12 : M.2.2 25 12 = .ref 32 := (congrFun (hd.2.2.2 25 (by decide)).2 12).trans x12
  replace k33 : M.2.1 33 = (20, 6) := ((hd.2.2.2 33 (by decide)).1).trans k33
  replace z33 : M.2.2 33 = fun _ => .int 0 := ((hd.2.2.2 33 (by decide)).2).trans z33
  replace x14 : M.2.2 25 14 = .ref 33 := (congrFun (hd.2.2.2 25 (by decide)).2 14).trans x14
  replace k34 : M.2.1 34 = (20, 6) := ((hd.2.2.2 34 (by decide)).1).trans k34
  replace z34 : M.2.2 34 = fun _ => .int 0 := ((hd.2.2.2 34 (by decide)).2).trans z34
  replace x15 : M.2.2 25 15 = .ref 34 := (congrFun (hd.2.2.2 25 (by decide)).2 15).trans x15
  replace k35 : M.2.1 35 = (20, 12) := ((hd.2.2.2 35 (by decide)).1).trans k35
  replace z35 : M.2.2 35 = fun _ => .int 0 := ((hd.2.2.2 35 (by decide)).2).trans z35
  replace x16 : M.2.2 25 16 = .ref 35 := (congrFun (hd.2.2.2 25 (by decide)).2 16).trans x16
  replace hF := hF.nw hd (by decide)
  have k36 : M.2.1 36 = (20, 12) := hd.2.1
  have z36 : M.2.2 36 = fun _ => .int 0 := hd.2.2.1
  replace hM : M.1 = 37 := hd.1
  clear hd
  refine fp_putF 90 dX12_init_90 ckF_RX12_40_12 ckQ_RX12_12_17 rfl kX rfl rfl (fun M hd => ?_)
  replace kX : M.2.1 25 = (12, 33) := (congrFun hd.2.1 25).trans kX
  replace x0 : M.2.2 25 0 = .int 0 := (hd.2.2.2 25 0 (by decide)).trans x0
  replace x1 : M.2.2 25 1 = .int 0 := (hd.2.2.2 25 1 (by decide)).trans x1
  replace x6 : M.2.2 25 6 = .int 0 := (hd.2.2.2 25 6 (by decide)).trans x6
  replace x8 : M.2.2 25 8 = .int 0 := (hd.2.2.2 25 8 (by decide)).trans x8
  replace x9 : M.2.2 25 9 = .int 0 := (hd.2.2.2 25 9 (by decide)).trans x9
  replace x10 : M.2.2 25 10 = .int 0 := (hd.2.2.2 25 10 (by decide)).trans x10
  replace x13 : M.2.2 25 13 = .int 0 := (hd.2.2.2 25 13 (by decide)).trans x13
  replace x23 : M.2.2 25 23 = .int 0 := (hd.2.2.2 25 23 (by decide)).trans x23
  replace x24 : M.2.2 25 24 = .int 0 := (hd.2.2.2 25 24 (by decide)).trans x24
  replace x32 : M.2.2 25 32 = .int 0 := (hd.2.2.2 25 32 (by decide)).trans x32
  replace k26 : M.2.1 26 = (20, 12) := (congrFun hd.2.1 26).trans k26
  replace z26 : M.2.2 26 = fun _ => .int 0 := (hd.toWd.2.2 26 (by decide)).trans z26
  replace x2 : M.2.2 25 2 = .ref 26 := (hd.2.2.2 25 2 (by decide)).trans x2
  replace k27 : M.2.1 27 = (20, 12) := (congrFun hd.2.1 27).trans k27
  replace z27 : M.2.2 27 = fun _ => .int 0 := (hd.toWd.2.2 27 (by decide)).trans z27
  replace x3 : M.2.2 25 3 = .ref 27 := (hd.2.2.2 25 3 (by decide)).trans x3
  replace k28 : M.2.1 28 = (20, 192) := (congrFun hd.2.1 28).trans k28
  replace z28 : M.2.2 28 = fun _ => .int 0 := (hd.toWd.2.2 28 (by decide)).trans z28
  replace x4 : M.2.2 25 4 = .ref 28 := (hd.2.2.2 25 4 (by decide)).trans x4
  replace k29 : M.2.1 29 = (20, 32) := (congrFun hd.2.1 29).trans k29
  replace z29 : M.2.2 29 = fun _ => .int 0 := (hd.toWd.2.2 29 (by decide)).trans z29
  replace x5 : M.2.2 25 5 = .ref 29 := (hd.2.2.2 25 5 (by decide)).trans x5
  replace k30 : M.2.1 30 = (20, 25) := (congrFun hd.2.1 30).trans k30
  replace z30 : M.2.2 30 = fun _ => .int 0 := (hd.toWd.2.2 30 (by decide)).trans z30
  replace x7 : M.2.2 25 7 = .ref 30 := (hd.2.2.2 25 7 (by decide)).trans x7
  replace k31 : M.2.1 31 = (20, 16) := (congrFun hd.2.1 31).trans k31
  replace z31 : M.2.2 31 = fun _ => .int 0 := (hd.toWd.2.2 31 (by decide)).trans z31
  replace x11 : M.2.2 25 11 = .ref 31 := (hd.2.2.2 25 11 (by decide)).trans x11
  replace k32 : M.2.1 32 = (20, 16) := (congrFun hd.2.1 32).trans k32
  replace z32 : M.2.2 32 = fun _ => .int 0 := (hd.toWd.2.2 32 (by decide)).trans z32
  replace x12 : M.2.2 25 12 = .ref 32 := (hd.2.2.2 25 12 (by decide)).trans x12
  replace k33 : M.2.1 33 = (20, 6) := (congrFun hd.2.1 33).trans k33
  replace z33 : M.2.2 33 = fun _ => .int 0 := (hd.toWd.2.2 33 (by decide)).trans z33
  replace x14 : M.2.2 25 14 = .ref 33 := (hd.2.2.2 25 14 (by decide)).trans x14
  replace k34 : M.2.1 34 = (20, 6) := (congrFun hd.2.1 34).trans k34
  replace z34 : M.2.2 34 = fun _ => .int 0 := (hd.toWd.2.2 34 (by decide)).trans z34
  replace x15 : M.2.2 25 15 = .ref 34 := (hd.2.2.2 25 15 (by decide)).trans x15
  replace k35 : M.2.1 35 = (20, 12) := (congrFun hd.2.1 35).trans k35
  replace z35 : M.2.2 35 = fun _ => .int 0 := (hd.toWd.2.2 35 (by decide)).trans z35
  replace x16 : M.2.2 25 16 = .ref 35 := (hd.2.2.2 25 16 (by decide)).trans x16
  replace k36 : M.2.1 36 = (20, 12) := (congrFun hd.2.1 36).trans k36
  replace z36 : M.2.2 36 = fun _ => .int 0 := (hd.toWd.2.2 36 (by decide)).trans z36
  replace hF := hF.wd hd.toWd (by decide)
  replace hM := hd.1.trans hM
  have x17 : M.2.2 25 17 = .ref 36 := hd.2.2.1
  clear hd
  refine aw_aload0 93 dX12_init_93 ?_
  refine aw_bipush 94 12 dX12_init_94 (by decide) ?_
  refine na_new 96 (12) (37) dX12_init_96 rfl (by decide) hM (by decide) (by decide) (fun M hd => ?_)
  replace kX : M.2.1 25 = (12, 33) := ((hd.2.2.2 25 (by decide)).1).trans kX
  replace x0 : M.2.2 25 0 = .int 0 := (congrFun (hd.2.2.2 25 (by decide)).2 0).trans x0
  replace x1 : M.2.2 25 1 = .int 0 := (congrFun (hd.2.2.2 25 (by decide)).2 1).trans x1
  replace x6 : M.2.2 25 6 = .int 0 := (congrFun (hd.2.2.2 25 (by decide)).2 6).trans x6
  replace x8 : M.2.2 25 8 = .int 0 := (congrFun (hd.2.2.2 25 (by decide)).2 8).trans x8
  replace x9 : M.2.2 25 9 = .int 0 := (congrFun (hd.2.2.2 25 (by decide)).2 9).trans x9
  replace x10 : M.2.2 25 10 = .int 0 := (congrFun (hd.2.2.2 25 (by decide)).2 10).trans x10
  replace x13 : M.2.2 25 13 = .int 0 := (congrFun (hd.2.2.2 25 (by decide)).2 13).trans x13
  replace x23 : M.2.2 25 23 = .int 0 := (congrFun (hd.2.2.2 25 (by decide)).2 23).trans x23
  replace x24 : M.2.2 25 24 = .int 0 := (congrFun (hd.2.2.2 25 (by decide)).2 24).trans x24
  replace x32 : M.2.2 25 32 = .int 0 := (congrFun (hd.2.2.2 25 (by decide)).2 32).trans x32
  replace k26 : M.2.1 26 = (20, 12) := ((hd.2.2.2 26 (by decide)).1).trans k26
  replace z26 : M.2.2 26 = fun _ => .int 0 := ((hd.2.2.2 26 (by decide)).2).trans z26
  replace x2 : M.2.2 25 2 = .ref 26 := (congrFun (hd.2.2.2 25 (by decide)).2 2).trans x2
  replace k27 : M.2.1 27 = (20, 12) := ((hd.2.2.2 27 (by decide)).1).trans k27
  replace z27 : M.2.2 27 = fun _ => .int 0 := ((hd.2.2.2 27 (by decide)).2).trans z27
  replace x3 : M.2.2 25 3 = .ref 27 := (congrFun (hd.2.2.2 25 (by decide)).2 3).trans x3
  replace k28 : M.2.1 28 = (20, 192) := ((hd.2.2.2 28 (by decide)).1).trans k28
  replace z28 : M.2.2 28 = fun _ => .int 0 := ((hd.2.2.2 28 (by decide)).2).trans z28
  replace x4 : M.2.2 25 4 = .ref 28 := (congrFun (hd.2.2.2 25 (by decide)).2 4).trans x4
  replace k29 : M.2.1 29 = (20, 32) := ((hd.2.2.2 29 (by decide)).1).trans k29
  replace z29 : M.2.2 29 = fun _ => .int 0 := ((hd.2.2.2 29 (by decide)).2).trans z29
  replace x5 : M.2.2 25 5 = .ref 29 := (congrFun (hd.2.2.2 25 (by decide)).2 5).trans x5
  replace k30 : M.2.1 30 = (20, 25) := ((hd.2.2.2 30 (by decide)).1).trans k30
  replace z30 : M.2.2 30 = fun _ => .int 0 := ((hd.2.2.2 30 (by decide)).2).trans z30
  replace x7 : M.2.2 25 7 = .ref 30 := (congrFun (hd.2.2.2 25 (by decide)).2 7).trans x7
  replace k31 : M.2.1 31 = (20, 16) := ((hd.2.2.2 31 (by decide)).1).trans k31
  replace z31 : M.2.2 31 = fun _ => .int 0 := ((hd.2.2.2 31 (by decide)).2).trans z31
  replace x11 : M.2.2 25 11 = .ref 31 := (congrFun (hd.2.2.2 25 (by decide)).2 11).trans x11
  replace k32 : M.2.1 32 = (20, 16) := ((hd.2.2.2 32 (by decide)).1).trans k32
  replace z32 : M.2.2 32 = fun _ => .int 0 := ((hd.2.2.2 32 (by decide)).2).trans z32
  replace x12 : M.2.2 25 12 = .ref 32 := (congrFun (hd.2.2.2 25 (by decide)).2 12).trans x12
  replace k33 : M.2.1 33 = (20, 6) := ((hd.2.2.2 33 (by decide)).1).trans k33
  replace z33 : M.2.2 33 = fun _ => .int 0 := ((hd.2.2.2 33 (by decide)).2).trans z33
  replace x14 : M.2.2 25 14 = .ref 33 := (congrFun (hd.2.2.2 25 (by decide)).2 14).trans x14
  replace k34 : M.2.1 34 = (20, 6) := ((hd.2.2.2 34 (by decide)).1).trans k34
  replace z34 : M.2.2 34 = fun _ => .int 0 := ((hd.2.2.2 34 (by decide)).2).trans z34
  replace x15 : M.2.2 25 15 = .ref 34 := (congrFun (hd.2.2.2 25 (by decide)).2 15).trans x15
  replace k35 : M.2.1 35 = (20, 12) := ((hd.2.2.2 35 (by decide)).1).trans k35
  replace z35 : M.2.2 35 = fun _ => .int 0 := ((hd.2.2.2 35 (by decide)).2).trans z35
  replace x16 : M.2.2 25 16 = .ref 35 := (congrFun (hd.2.2.2 25 (by decide)).2 16).trans x16
  replace k36 : M.2.1 36 = (20, 12) := ((hd.2.2.2 36 (by decide)).1).trans k36
  replace z36 : M.2.2 36 = fun _ => .int 0 := ((hd.2.2.2 36 (by decide)).2).trans z36
  replace x17 : M.2.2 25 17 = .ref 36 := (congrFun (hd.2.2.2 25 (by decide)).2 17).trans x17
  replace hF := hF.nw hd (by decide)
  have k37 : M.2.1 37 = (20, 12) := hd.2.1
  have z37 : M.2.2 37 = fun _ => .int 0 := hd.2.2.1
  replace hM : M.1 = 38 := hd.1
  clear hd
  refine fp_putF 98 dX12_init_98 ckF_RX12_43_12 ckQ_RX12_12_18 rfl kX rfl rfl (fun M hd => ?_)
  replace kX : M.2.1 25 = (12, 33) := (congrFun hd.2.1 25).trans kX
  replace x0 : M.2.2 25 0 = .int 0 := (hd.2.2.2 25 0 (by decide)).trans x0
  replace x1 : M.2.2 25 1 = .int 0 := (hd.2.2.2 25 1 (by decide)).trans x1
  replace x6 : M.2.2 25 6 = .int 0 := (hd.2.2.2 25 6 (by decide)).trans x6
  replace x8 : M.2.2 25 8 = .int 0 := (hd.2.2.2 25 8 (by decide)).trans x8
  replace x9 : M.2.2 25 9 = .int 0 := (hd.2.2.2 25 9 (by decide)).trans x9
  replace x10 : M.2.2 25 10 = .int 0 := (hd.2.2.2 25 10 (by decide)).trans x10
  replace x13 : M.2.2 25 13 = .int 0 := (hd.2.2.2 25 13 (by decide)).trans x13
  replace x23 : M.2.2 25 23 = .int 0 := (hd.2.2.2 25 23 (by decide)).trans x23
  replace x24 : M.2.2 25 24 = .int 0 := (hd.2.2.2 25 24 (by decide)).trans x24
  replace x32 : M.2.2 25 32 = .int 0 := (hd.2.2.2 25 32 (by decide)).trans x32
  replace k26 : M.2.1 26 = (20, 12) := (congrFun hd.2.1 26).trans k26
  replace z26 : M.2.2 26 = fun _ => .int 0 := (hd.toWd.2.2 26 (by decide)).trans z26
  replace x2 : M.2.2 25 2 = .ref 26 := (hd.2.2.2 25 2 (by decide)).trans x2
  replace k27 : M.2.1 27 = (20, 12) := (congrFun hd.2.1 27).trans k27
  replace z27 : M.2.2 27 = fun _ => .int 0 := (hd.toWd.2.2 27 (by decide)).trans z27
  replace x3 : M.2.2 25 3 = .ref 27 := (hd.2.2.2 25 3 (by decide)).trans x3
  replace k28 : M.2.1 28 = (20, 192) := (congrFun hd.2.1 28).trans k28
  replace z28 : M.2.2 28 = fun _ => .int 0 := (hd.toWd.2.2 28 (by decide)).trans z28
  replace x4 : M.2.2 25 4 = .ref 28 := (hd.2.2.2 25 4 (by decide)).trans x4
  replace k29 : M.2.1 29 = (20, 32) := (congrFun hd.2.1 29).trans k29
  replace z29 : M.2.2 29 = fun _ => .int 0 := (hd.toWd.2.2 29 (by decide)).trans z29
  replace x5 : M.2.2 25 5 = .ref 29 := (hd.2.2.2 25 5 (by decide)).trans x5
  replace k30 : M.2.1 30 = (20, 25) := (congrFun hd.2.1 30).trans k30
  replace z30 : M.2.2 30 = fun _ => .int 0 := (hd.toWd.2.2 30 (by decide)).trans z30
  replace x7 : M.2.2 25 7 = .ref 30 := (hd.2.2.2 25 7 (by decide)).trans x7
  replace k31 : M.2.1 31 = (20, 16) := (congrFun hd.2.1 31).trans k31
  replace z31 : M.2.2 31 = fun _ => .int 0 := (hd.toWd.2.2 31 (by decide)).trans z31
  replace x11 : M.2.2 25 11 = .ref 31 := (hd.2.2.2 25 11 (by decide)).trans x11
  replace k32 : M.2.1 32 = (20, 16) := (congrFun hd.2.1 32).trans k32
  replace z32 : M.2.2 32 = fun _ => .int 0 := (hd.toWd.2.2 32 (by decide)).trans z32
  replace x12 : M.2.2 25 12 = .ref 32 := (hd.2.2.2 25 12 (by decide)).trans x12
  replace k33 : M.2.1 33 = (20, 6) := (congrFun hd.2.1 33).trans k33
  replace z33 : M.2.2 33 = fun _ => .int 0 := (hd.toWd.2.2 33 (by decide)).trans z33
  replace x14 : M.2.2 25 14 = .ref 33 := (hd.2.2.2 25 14 (by decide)).trans x14
  replace k34 : M.2.1 34 = (20, 6) := (congrFun hd.2.1 34).trans k34
  replace z34 : M.2.2 34 = fun _ => .int 0 := (hd.toWd.2.2 34 (by decide)).trans z34
  replace x15 : M.2.2 25 15 = .ref 34 := (hd.2.2.2 25 15 (by decide)).trans x15
  replace k35 : M.2.1 35 = (20, 12) := (congrFun hd.2.1 35).trans k35
  replace z35 : M.2.2 35 = fun _ => .int 0 := (hd.toWd.2.2 35 (by decide)).trans z35
  replace x16 : M.2.2 25 16 = .ref 35 := (hd.2.2.2 25 16 (by decide)).trans x16
  replace k36 : M.2.1 36 = (20, 12) := (congrFun hd.2.1 36).trans k36
  replace z36 : M.2.2 36 = fun _ => .int 0 := (hd.toWd.2.2 36 (by decide)).trans z36
  replace x17 : M.2.2 25 17 = .ref 36 := (hd.2.2.2 25 17 (by decide)).trans x17
  replace k37 : M.2.1 37 = (20, 12) := (congrFun hd.2.1 37).trans k37
  replace z37 : M.2.2 37 = fun _ => .int 0 := (hd.toWd.2.2 37 (by decide)).trans z37
  replace hF := hF.wd hd.toWd (by decide)
  replace hM := hd.1.trans hM
  have x18 : M.2.2 25 18 = .ref 37 := hd.2.2.1
  clear hd
  refine aw_aload0 101 dX12_init_101 ?_
  refine aw_bipush 102 12 dX12_init_102 (by decide) ?_
  refine na_new 104 (12) (38) dX12_init_104 rfl (by decide) hM (by decide) (by decide) (fun M hd => ?_)
  replace kX : M.2.1 25 = (12, 33) := ((hd.2.2.2 25 (by decide)).1).trans kX
  replace x0 : M.2.2 25 0 = .int 0 := (congrFun (hd.2.2.2 25 (by decide)).2 0).trans x0
  replace x1 : M.2.2 25 1 = .int 0 := (congrFun (hd.2.2.2 25 (by decide)).2 1).trans x1
  replace x6 : M.2.2 25 6 = .int 0 := (congrFun (hd.2.2.2 25 (by decide)).2 6).trans x6
  replace x8 : M.2.2 25 8 = .int 0 := (congrFun (hd.2.2.2 25 (by decide)).2 8).trans x8
  replace x9 : M.2.2 25 9 = .int 0 := (congrFun (hd.2.2.2 25 (by decide)).2 9).trans x9
  replace x10 : M.2.2 25 10 = .int 0 := (congrFun (hd.2.2.2 25 (by decide)).2 10).trans x10
  replace x13 : M.2.2 25 13 = .int 0 := (congrFun (hd.2.2.2 25 (by decide)).2 13).trans x13
  replace x23 : M.2.2 25 23 = .int 0 := (congrFun (hd.2.2.2 25 (by decide)).2 23).trans x23
  replace x24 : M.2.2 25 24 = .int 0 := (congrFun (hd.2.2.2 25 (by decide)).2 24).trans x24
  replace x32 : M.2.2 25 32 = .int 0 := (congrFun (hd.2.2.2 25 (by decide)).2 32).trans x32
  replace k26 : M.2.1 26 = (20, 12) := ((hd.2.2.2 26 (by decide)).1).trans k26
  replace z26 : M.2.2 26 = fun _ => .int 0 := ((hd.2.2.2 26 (by decide)).2).trans z26
  replace x2 : M.2.2 25 2 = .ref 26 := (congrFun (hd.2.2.2 25 (by decide)).2 2).trans x2
  replace k27 : M.2.1 27 = (20, 12) := ((hd.2.2.2 27 (by decide)).1).trans k27
  replace z27 : M.2.2 27 = fun _ => .int 0 := ((hd.2.2.2 27 (by decide)).2).trans z27
  replace x3 : M.2.2 25 3 = .ref 27 := (congrFun (hd.2.2.2 25 (by decide)).2 3).trans x3
  replace k28 : M.2.1 28 = (20, 192) := ((hd.2.2.2 28 (by decide)).1).trans k28
  replace z28 : M.2.2 28 = fun _ => .int 0 := ((hd.2.2.2 28 (by decide)).2).trans z28
  replace x4 : M.2.2 25 4 = .ref 28 := (congrFun (hd.2.2.2 25 (by decide)).2 4).trans x4
  replace k29 : M.2.1 29 = (20, 32) := ((hd.2.2.2 29 (by decide)).1).trans k29
  replace z29 : M.2.2 29 = fun _ => .int 0 := ((hd.2.2.2 29 (by decide)).2).trans z29
  replace x5 : M.2.2 25 5 = .ref 29 := (congrFun (hd.2.2.2 25 (by decide)).2 5).trans x5
  replace k30 : M.2.1 30 = (20, 25) := ((hd.2.2.2 30 (by decide)).1).trans k30
  replace z30 : M.2.2 30 = fun _ => .int 0 := ((hd.2.2.2 30 (by decide)).2).trans z30
  replace x7 : M.2.2 25 7 = .ref 30 := (congrFun (hd.2.2.2 25 (by decide)).2 7).trans x7
  replace k31 : M.2.1 31 = (20, 16) := ((hd.2.2.2 31 (by decide)).1).trans k31
  replace z31 : M.2.2 31 = fun _ => .int 0 := ((hd.2.2.2 31 (by decide)).2).trans z31
  replace x11 : M.2.2 25 11 = .ref 31 := (congrFun (hd.2.2.2 25 (by decide)).2 11).trans x11
  replace k32 : M.2.1 32 = (20, 16) := ((hd.2.2.2 32 (by decide)).1).trans k32
  replace z32 : M.2.2 32 = fun _ => .int 0 := ((hd.2.2.2 32 (by decide)).2).trans z32
  replace x12 : M.2.2 25 12 = .ref 32 := (congrFun (hd.2.2.2 25 (by decide)).2 12).trans x12
  replace k33 : M.2.1 33 = (20, 6) := ((hd.2.2.2 33 (by decide)).1).trans k33
  replace z33 : M.2.2 33 = fun _ => .int 0 := ((hd.2.2.2 33 (by decide)).2).trans z33
  replace x14 : M.2.2 25 14 = .ref 33 := (congrFun (hd.2.2.2 25 (by decide)).2 14).trans x14
  replace k34 : M.2.1 34 = (20, 6) := ((hd.2.2.2 34 (by decide)).1).trans k34
  replace z34 : M.2.2 34 = fun _ => .int 0 := ((hd.2.2.2 34 (by decide)).2).trans z34
  replace x15 : M.2.2 25 15 = .ref 34 := (congrFun (hd.2.2.2 25 (by decide)).2 15).trans x15
  replace k35 : M.2.1 35 = (20, 12) := ((hd.2.2.2 35 (by decide)).1).trans k35
  replace z35 : M.2.2 35 = fun _ => .int 0 := ((hd.2.2.2 35 (by decide)).2).trans z35
  replace x16 : M.2.2 25 16 = .ref 35 := (congrFun (hd.2.2.2 25 (by decide)).2 16).trans x16
  replace k36 : M.2.1 36 = (20, 12) := ((hd.2.2.2 36 (by decide)).1).trans k36
  replace z36 : M.2.2 36 = fun _ => .int 0 := ((hd.2.2.2 36 (by decide)).2).trans z36
  replace x17 : M.2.2 25 17 = .ref 36 := (congrFun (hd.2.2.2 25 (by decide)).2 17).trans x17
  replace k37 : M.2.1 37 = (20, 12) := ((hd.2.2.2 37 (by decide)).1).trans k37
  replace z37 : M.2.2 37 = fun _ => .int 0 := ((hd.2.2.2 37 (by decide)).2).trans z37
  replace x18 : M.2.2 25 18 = .ref 37 := (congrFun (hd.2.2.2 25 (by decide)).2 18).trans x18
  replace hF := hF.nw hd (by decide)
  have k38 : M.2.1 38 = (20, 12) := hd.2.1
  have z38 : M.2.2 38 = fun _ => .int 0 := hd.2.2.1
  replace hM : M.1 = 39 := hd.1
  clear hd
  refine fp_putF 106 dX12_init_106 ckF_RX12_46_12 ckQ_RX12_12_19 rfl kX rfl rfl (fun M hd => ?_)
  replace kX : M.2.1 25 = (12, 33) := (congrFun hd.2.1 25).trans kX
  replace x0 : M.2.2 25 0 = .int 0 := (hd.2.2.2 25 0 (by decide)).trans x0
  replace x1 : M.2.2 25 1 = .int 0 := (hd.2.2.2 25 1 (by decide)).trans x1
  replace x6 : M.2.2 25 6 = .int 0 := (hd.2.2.2 25 6 (by decide)).trans x6
  replace x8 : M.2.2 25 8 = .int 0 := (hd.2.2.2 25 8 (by decide)).trans x8
  replace x9 : M.2.2 25 9 = .int 0 := (hd.2.2.2 25 9 (by decide)).trans x9
  replace x10 : M.2.2 25 10 = .int 0 := (hd.2.2.2 25 10 (by decide)).trans x10
  replace x13 : M.2.2 25 13 = .int 0 := (hd.2.2.2 25 13 (by decide)).trans x13
  replace x23 : M.2.2 25 23 = .int 0 := (hd.2.2.2 25 23 (by decide)).trans x23
  replace x24 : M.2.2 25 24 = .int 0 := (hd.2.2.2 25 24 (by decide)).trans x24
  replace x32 : M.2.2 25 32 = .int 0 := (hd.2.2.2 25 32 (by decide)).trans x32
  replace k26 : M.2.1 26 = (20, 12) := (congrFun hd.2.1 26).trans k26
  replace z26 : M.2.2 26 = fun _ => .int 0 := (hd.toWd.2.2 26 (by decide)).trans z26
  replace x2 : M.2.2 25 2 = .ref 26 := (hd.2.2.2 25 2 (by decide)).trans x2
  replace k27 : M.2.1 27 = (20, 12) := (congrFun hd.2.1 27).trans k27
  replace z27 : M.2.2 27 = fun _ => .int 0 := (hd.toWd.2.2 27 (by decide)).trans z27
  replace x3 : M.2.2 25 3 = .ref 27 := (hd.2.2.2 25 3 (by decide)).trans x3
  replace k28 : M.2.1 28 = (20, 192) := (congrFun hd.2.1 28).trans k28
  replace z28 : M.2.2 28 = fun _ => .int 0 := (hd.toWd.2.2 28 (by decide)).trans z28
  replace x4 : M.2.2 25 4 = .ref 28 := (hd.2.2.2 25 4 (by decide)).trans x4
  replace k29 : M.2.1 29 = (20, 32) := (congrFun hd.2.1 29).trans k29
  replace z29 : M.2.2 29 = fun _ => .int 0 := (hd.toWd.2.2 29 (by decide)).trans z29
  replace x5 : M.2.2 25 5 = .ref 29 := (hd.2.2.2 25 5 (by decide)).trans x5
  replace k30 : M.2.1 30 = (20, 25) := (congrFun hd.2.1 30).trans k30
  replace z30 : M.2.2 30 = fun _ => .int 0 := (hd.toWd.2.2 30 (by decide)).trans z30
  replace x7 : M.2.2 25 7 = .ref 30 := (hd.2.2.2 25 7 (by decide)).trans x7
  replace k31 : M.2.1 31 = (20, 16) := (congrFun hd.2.1 31).trans k31
  replace z31 : M.2.2 31 = fun _ => .int 0 := (hd.toWd.2.2 31 (by decide)).trans z31
  replace x11 : M.2.2 25 11 = .ref 31 := (hd.2.2.2 25 11 (by decide)).trans x11
  replace k32 : M.2.1 32 = (20, 16) := (congrFun hd.2.1 32).trans k32
  replace z32 : M.2.2 32 = fun _ => .int 0 := (hd.toWd.2.2 32 (by decide)).trans z32
  replace x12 : M.2.2 25 12 = .ref 32 := (hd.2.2.2 25 12 (by decide)).trans x12
  replace k33 : M.2.1 33 = (20, 6) := (congrFun hd.2.1 33).trans k33
  replace z33 : M.2.2 33 = fun _ => .int 0 := (hd.toWd.2.2 33 (by decide)).trans z33
  replace x14 : M.2.2 25 14 = .ref 33 := (hd.2.2.2 25 14 (by decide)).trans x14
  replace k34 : M.2.1 34 = (20, 6) := (congrFun hd.2.1 34).trans k34
  replace z34 : M.2.2 34 = fun _ => .int 0 := (hd.toWd.2.2 34 (by decide)).trans z34
  replace x15 : M.2.2 25 15 = .ref 34 := (hd.2.2.2 25 15 (by decide)).trans x15
  replace k35 : M.2.1 35 = (20, 12) := (congrFun hd.2.1 35).trans k35
  replace z35 : M.2.2 35 = fun _ => .int 0 := (hd.toWd.2.2 35 (by decide)).trans z35
  replace x16 : M.2.2 25 16 = .ref 35 := (hd.2.2.2 25 16 (by decide)).trans x16
  replace k36 : M.2.1 36 = (20, 12) := (congrFun hd.2.1 36).trans k36
  replace z36 : M.2.2 36 = fun _ => .int 0 := (hd.toWd.2.2 36 (by decide)).trans z36
  replace x17 : M.2.2 25 17 = .ref 36 := (hd.2.2.2 25 17 (by decide)).trans x17
  replace k37 : M.2.1 37 = (20, 12) := (congrFun hd.2.1 37).trans k37
  replace z37 : M.2.2 37 = fun _ => .int 0 := (hd.toWd.2.2 37 (by decide)).trans z37
  replace x18 : M.2.2 25 18 = .ref 37 := (hd.2.2.2 25 18 (by decide)).trans x18
  replace k38 : M.2.1 38 = (20, 12) := (congrFun hd.2.1 38).trans k38
  replace z38 : M.2.2 38 = fun _ => .int 0 := (hd.toWd.2.2 38 (by decide)).trans z38
  replace hF := hF.wd hd.toWd (by decide)
  replace hM := hd.1.trans hM
  have x19 : M.2.2 25 19 = .ref 38 := hd.2.2.1
  clear hd
  refine aw_aload0 109 dX12_init_109 ?_
  refine aw_bipush 110 12 dX12_init_110 (by decide) ?_
  refine na_new 112 (12) (39) dX12_init_112 rfl (by decide) hM (by decide) (by decide) (fun M hd => ?_)
  replace kX : M.2.1 25 = (12, 33) := ((hd.2.2.2 25 (by decide)).1).trans kX
  replace x0 : M.2.2 25 0 = .int 0 := (congrFun (hd.2.2.2 25 (by decide)).2 0).trans x0
  replace x1 : M.2.2 25 1 = .int 0 := (congrFun (hd.2.2.2 25 (by decide)).2 1).trans x1
  replace x6 : M.2.2 25 6 = .int 0 := (congrFun (hd.2.2.2 25 (by decide)).2 6).trans x6
  replace x8 : M.2.2 25 8 = .int 0 := (congrFun (hd.2.2.2 25 (by decide)).2 8).trans x8
  replace x9 : M.2.2 25 9 = .int 0 := (congrFun (hd.2.2.2 25 (by decide)).2 9).trans x9
  replace x10 : M.2.2 25 10 = .int 0 := (congrFun (hd.2.2.2 25 (by decide)).2 10).trans x10
  replace x13 : M.2.2 25 13 = .int 0 := (congrFun (hd.2.2.2 25 (by decide)).2 13).trans x13
  replace x23 : M.2.2 25 23 = .int 0 := (congrFun (hd.2.2.2 25 (by decide)).2 23).trans x23
  replace x24 : M.2.2 25 24 = .int 0 := (congrFun (hd.2.2.2 25 (by decide)).2 24).trans x24
  replace x32 : M.2.2 25 32 = .int 0 := (congrFun (hd.2.2.2 25 (by decide)).2 32).trans x32
  replace k26 : M.2.1 26 = (20, 12) := ((hd.2.2.2 26 (by decide)).1).trans k26
  replace z26 : M.2.2 26 = fun _ => .int 0 := ((hd.2.2.2 26 (by decide)).2).trans z26
  replace x2 : M.2.2 25 2 = .ref 26 := (congrFun (hd.2.2.2 25 (by decide)).2 2).trans x2
  replace k27 : M.2.1 27 = (20, 12) := ((hd.2.2.2 27 (by decide)).1).trans k27
  replace z27 : M.2.2 27 = fun _ => .int 0 := ((hd.2.2.2 27 (by decide)).2).trans z27
  replace x3 : M.2.2 25 3 = .ref 27 := (congrFun (hd.2.2.2 25 (by decide)).2 3).trans x3
  replace k28 : M.2.1 28 = (20, 192) := ((hd.2.2.2 28 (by decide)).1).trans k28
  replace z28 : M.2.2 28 = fun _ => .int 0 := ((hd.2.2.2 28 (by decide)).2).trans z28
  replace x4 : M.2.2 25 4 = .ref 28 := (congrFun (hd.2.2.2 25 (by decide)).2 4).trans x4
  replace k29 : M.2.1 29 = (20, 32) := ((hd.2.2.2 29 (by decide)).1).trans k29
  replace z29 : M.2.2 29 = fun _ => .int 0 := ((hd.2.2.2 29 (by decide)).2).trans z29
  replace x5 : M.2.2 25 5 = .ref 29 := (congrFun (hd.2.2.2 25 (by decide)).2 5).trans x5
  replace k30 : M.2.1 30 = (20, 25) := ((hd.2.2.2 30 (by decide)).1).trans k30
  replace z30 : M.2.2 30 = fun _ => .int 0 := ((hd.2.2.2 30 (by decide)).2).trans z30
  replace x7 : M.2.2 25 7 = .ref 30 := (congrFun (hd.2.2.2 25 (by decide)).2 7).trans x7
  replace k31 : M.2.1 31 = (20, 16) := ((hd.2.2.2 31 (by decide)).1).trans k31
  replace z31 : M.2.2 31 = fun _ => .int 0 := ((hd.2.2.2 31 (by decide)).2).trans z31
  replace x11 : M.2.2 25 11 = .ref 31 := (congrFun (hd.2.2.2 25 (by decide)).2 11).trans x11
  replace k32 : M.2.1 32 = (20, 16) := ((hd.2.2.2 32 (by decide)).1).trans k32
  replace z32 : M.2.2 32 = fun _ => .int 0 := ((hd.2.2.2 32 (by decide)).2).trans z32
  replace x12 : M.2.2 25 12 = .ref 32 := (congrFun (hd.2.2.2 25 (by decide)).2 12).trans x12
  replace k33 : M.2.1 33 = (20, 6) := ((hd.2.2.2 33 (by decide)).1).trans k33
  replace z33 : M.2.2 33 = fun _ => .int 0 := ((hd.2.2.2 33 (by decide)).2).trans z33
  replace x14 : M.2.2 25 14 = .ref 33 := (congrFun (hd.2.2.2 25 (by decide)).2 14).trans x14
  replace k34 : M.2.1 34 = (20, 6) := ((hd.2.2.2 34 (by decide)).1).trans k34
  replace z34 : M.2.2 34 = fun _ => .int 0 := ((hd.2.2.2 34 (by decide)).2).trans z34
  replace x15 : M.2.2 25 15 = .ref 34 := (congrFun (hd.2.2.2 25 (by decide)).2 15).trans x15
  replace k35 : M.2.1 35 = (20, 12) := ((hd.2.2.2 35 (by decide)).1).trans k35
  replace z35 : M.2.2 35 = fun _ => .int 0 := ((hd.2.2.2 35 (by decide)).2).trans z35
  replace x16 : M.2.2 25 16 = .ref 35 := (congrFun (hd.2.2.2 25 (by decide)).2 16).trans x16
  replace k36 : M.2.1 36 = (20, 12) := ((hd.2.2.2 36 (by decide)).1).trans k36
  replace z36 : M.2.2 36 = fun _ => .int 0 := ((hd.2.2.2 36 (by decide)).2).trans z36
  replace x17 : M.2.2 25 17 = .ref 36 := (congrFun (hd.2.2.2 25 (by decide)).2 17).trans x17
  replace k37 : M.2.1 37 = (20, 12) := ((hd.2.2.2 37 (by decide)).1).trans k37
  replace z37 : M.2.2 37 = fun _ => .int 0 := ((hd.2.2.2 37 (by decide)).2).trans z37
  replace x18 : M.2.2 25 18 = .ref 37 := (congrFun (hd.2.2.2 25 (by decide)).2 18).trans x18
  replace k38 : M.2.1 38 = (20, 12) := ((hd.2.2.2 38 (by decide)).1).trans k38
  replace z38 : M.2.2 38 = fun _ => .int 0 := ((hd.2.2.2 38 (by decide)).2).trans z38
  replace x19 : M.2.2 25 19 = .ref 38 := (congrFun (hd.2.2.2 25 (by decide)).2 19).trans x19
  replace hF := hF.nw hd (by decide)
  have k39 : M.2.1 39 = (20, 12) := hd.2.1
  have z39 : M.2.2 39 = fun _ => .int 0 := hd.2.2.1
  replace hM : M.1 = 40 := hd.1
  clear hd
  refine fp_putF 114 dX12_init_114 ckF_RX12_49_12 ckQ_RX12_12_20 rfl kX rfl rfl (fun M hd => ?_)
  replace kX : M.2.1 25 = (12, 33) := (congrFun hd.2.1 25).trans kX
  replace x0 : M.2.2 25 0 = .int 0 := (hd.2.2.2 25 0 (by decide)).trans x0
  replace x1 : M.2.2 25 1 = .int 0 := (hd.2.2.2 25 1 (by decide)).trans x1
  replace x6 : M.2.2 25 6 = .int 0 := (hd.2.2.2 25 6 (by decide)).trans x6
  replace x8 : M.2.2 25 8 = .int 0 := (hd.2.2.2 25 8 (by decide)).trans x8
  replace x9 : M.2.2 25 9 = .int 0 := (hd.2.2.2 25 9 (by decide)).trans x9
  replace x10 : M.2.2 25 10 = .int 0 := (hd.2.2.2 25 10 (by decide)).trans x10
  replace x13 : M.2.2 25 13 = .int 0 := (hd.2.2.2 25 13 (by decide)).trans x13
  replace x23 : M.2.2 25 23 = .int 0 := (hd.2.2.2 25 23 (by decide)).trans x23
  replace x24 : M.2.2 25 24 = .int 0 := (hd.2.2.2 25 24 (by decide)).trans x24
  replace x32 : M.2.2 25 32 = .int 0 := (hd.2.2.2 25 32 (by decide)).trans x32
  replace k26 : M.2.1 26 = (20, 12) := (congrFun hd.2.1 26).trans k26
  replace z26 : M.2.2 26 = fun _ => .int 0 := (hd.toWd.2.2 26 (by decide)).trans z26
  replace x2 : M.2.2 25 2 = .ref 26 := (hd.2.2.2 25 2 (by decide)).trans x2
  replace k27 : M.2.1 27 = (20, 12) := (congrFun hd.2.1 27).trans k27
  replace z27 : M.2.2 27 = fun _ => .int 0 := (hd.toWd.2.2 27 (by decide)).trans z27
  replace x3 : M.2.2 25 3 = .ref 27 := (hd.2.2.2 25 3 (by decide)).trans x3
  replace k28 : M.2.1 28 = (20, 192) := (congrFun hd.2.1 28).trans k28
  replace z28 : M.2.2 28 = fun _ => .int 0 := (hd.toWd.2.2 28 (by decide)).trans z28
  replace x4 : M.2.2 25 4 = .ref 28 := (hd.2.2.2 25 4 (by decide)).trans x4
  replace k29 : M.2.1 29 = (20, 32) := (congrFun hd.2.1 29).trans k29
  replace z29 : M.2.2 29 = fun _ => .int 0 := (hd.toWd.2.2 29 (by decide)).trans z29
  replace x5 : M.2.2 25 5 = .ref 29 := (hd.2.2.2 25 5 (by decide)).trans x5
  replace k30 : M.2.1 30 = (20, 25) := (congrFun hd.2.1 30).trans k30
  replace z30 : M.2.2 30 = fun _ => .int 0 := (hd.toWd.2.2 30 (by decide)).trans z30
  replace x7 : M.2.2 25 7 = .ref 30 := (hd.2.2.2 25 7 (by decide)).trans x7
  replace k31 : M.2.1 31 = (20, 16) := (congrFun hd.2.1 31).trans k31
  replace z31 : M.2.2 31 = fun _ => .int 0 := (hd.toWd.2.2 31 (by decide)).trans z31
  replace x11 : M.2.2 25 11 = .ref 31 := (hd.2.2.2 25 11 (by decide)).trans x11
  replace k32 : M.2.1 32 = (20, 16) := (congrFun hd.2.1 32).trans k32
  replace z32 : M.2.2 32 = fun _ => .int 0 := (hd.toWd.2.2 32 (by decide)).trans z32
  replace x12 : M.2.2 25 12 = .ref 32 := (hd.2.2.2 25 12 (by decide)).trans x12
  replace k33 : M.2.1 33 = (20, 6) := (congrFun hd.2.1 33).trans k33
  replace z33 : M.2.2 33 = fun _ => .int 0 := (hd.toWd.2.2 33 (by decide)).trans z33
  replace x14 : M.2.2 25 14 = .ref 33 := (hd.2.2.2 25 14 (by decide)).trans x14
  replace k34 : M.2.1 34 = (20, 6) := (congrFun hd.2.1 34).trans k34
  replace z34 : M.2.2 34 = fun _ => .int 0 := (hd.toWd.2.2 34 (by decide)).trans z34
  replace x15 : M.2.2 25 15 = .ref 34 := (hd.2.2.2 25 15 (by decide)).trans x15
  replace k35 : M.2.1 35 = (20, 12) := (congrFun hd.2.1 35).trans k35
  replace z35 : M.2.2 35 = fun _ => .int 0 := (hd.toWd.2.2 35 (by decide)).trans z35
  replace x16 : M.2.2 25 16 = .ref 35 := (hd.2.2.2 25 16 (by decide)).trans x16
  replace k36 : M.2.1 36 = (20, 12) := (congrFun hd.2.1 36).trans k36
  replace z36 : M.2.2 36 = fun _ => .int 0 := (hd.toWd.2.2 36 (by decide)).trans z36
  replace x17 : M.2.2 25 17 = .ref 36 := (hd.2.2.2 25 17 (by decide)).trans x17
  replace k37 : M.2.1 37 = (20, 12) := (congrFun hd.2.1 37).trans k37
  replace z37 : M.2.2 37 = fun _ => .int 0 := (hd.toWd.2.2 37 (by decide)).trans z37
  replace x18 : M.2.2 25 18 = .ref 37 := (hd.2.2.2 25 18 (by decide)).trans x18
  replace k38 : M.2.1 38 = (20, 12) := (congrFun hd.2.1 38).trans k38
  replace z38 : M.2.2 38 = fun _ => .int 0 := (hd.toWd.2.2 38 (by decide)).trans z38
  replace x19 : M.2.2 25 19 = .ref 38 := (hd.2.2.2 25 19 (by decide)).trans x19
  replace k39 : M.2.1 39 = (20, 12) := (congrFun hd.2.1 39).trans k39
  replace z39 : M.2.2 39 = fun _ => .int 0 := (hd.toWd.2.2 39 (by decide)).trans z39
  replace hF := hF.wd hd.toWd (by decide)
  replace hM := hd.1.trans hM
  have x20 : M.2.2 25 20 = .ref 39 := hd.2.2.1
  clear hd
  refine aw_aload0 117 dX12_init_117 ?_
  refine aw_bipush 118 12 dX12_init_118 (by decide) ?_
  refine na_new 120 (12) (40) dX12_init_120 rfl (by decide) hM (by decide) (by decide) (fun M hd => ?_)
  replace kX : M.2.1 25 = (12, 33) := ((hd.2.2.2 25 (by decide)).1).trans kX
  replace x0 : M.2.2 25 0 = .int 0 := (congrFun (hd.2.2.2 25 (by decide)).2 0).trans x0
  replace x1 : M.2.2 25 1 = .int 0 := (congrFun (hd.2.2.2 25 (by decide)).2 1).trans x1
  replace x6 : M.2.2 25 6 = .int 0 := (congrFun (hd.2.2.2 25 (by decide)).2 6).trans x6
  replace x8 : M.2.2 25 8 = .int 0 := (congrFun (hd.2.2.2 25 (by decide)).2 8).trans x8
  replace x9 : M.2.2 25 9 = .int 0 := (congrFun (hd.2.2.2 25 (by decide)).2 9).trans x9
  replace x10 : M.2.2 25 10 = .int 0 := (congrFun (hd.2.2.2 25 (by decide)).2 10).trans x10
  replace x13 : M.2.2 25 13 = .int 0 := (congrFun (hd.2.2.2 25 (by decide)).2 13).trans x13
  replace x23 : M.2.2 25 23 = .int 0 := (congrFun (hd.2.2.2 25 (by decide)).2 23).trans x23
  replace x24 : M.2.2 25 24 = .int 0 := (congrFun (hd.2.2.2 25 (by decide)).2 24).trans x24
  replace x32 : M.2.2 25 32 = .int 0 := (congrFun (hd.2.2.2 25 (by decide)).2 32).trans x32
  replace k26 : M.2.1 26 = (20, 12) := ((hd.2.2.2 26 (by decide)).1).trans k26
  replace z26 : M.2.2 26 = fun _ => .int 0 := ((hd.2.2.2 26 (by decide)).2).trans z26
  replace x2 : M.2.2 25 2 = .ref 26 := (congrFun (hd.2.2.2 25 (by decide)).2 2).trans x2
  replace k27 : M.2.1 27 = (20, 12) := ((hd.2.2.2 27 (by decide)).1).trans k27
  replace z27 : M.2.2 27 = fun _ => .int 0 := ((hd.2.2.2 27 (by decide)).2).trans z27
  replace x3 : M.2.2 25 3 = .ref 27 := (congrFun (hd.2.2.2 25 (by decide)).2 3).trans x3
  replace k28 : M.2.1 28 = (20, 192) := ((hd.2.2.2 28 (by decide)).1).trans k28
  replace z28 : M.2.2 28 = fun _ => .int 0 := ((hd.2.2.2 28 (by decide)).2).trans z28
  replace x4 : M.2.2 25 4 = .ref 28 := (congrFun (hd.2.2.2 25 (by decide)).2 4).trans x4
  replace k29 : M.2.1 29 = (20, 32) := ((hd.2.2.2 29 (by decide)).1).trans k29
  replace z29 : M.2.2 29 = fun _ => .int 0 := ((hd.2.2.2 29 (by decide)).2).trans z29
  replace x5 : M.2.2 25 5 = .ref 29 := (congrFun (hd.2.2.2 25 (by decide)).2 5).trans x5
  replace k30 : M.2.1 30 = (20, 25) := ((hd.2.2.2 30 (by decide)).1).trans k30
  replace z30 : M.2.2 30 = fun _ => .int 0 := ((hd.2.2.2 30 (by decide)).2).trans z30
  replace x7 : M.2.2 25 7 = .ref 30 := (congrFun (hd.2.2.2 25 (by decide)).2 7).trans x7
  replace k31 : M.2.1 31 = (20, 16) := ((hd.2.2.2 31 (by decide)).1).trans k31
  replace z31 : M.2.2 31 = fun _ => .int 0 := ((hd.2.2.2 31 (by decide)).2).trans z31
  replace x11 : M.2.2 25 11 = .ref 31 := (congrFun (hd.2.2.2 25 (by decide)).2 11).trans x11
  replace k32 : M.2.1 32 = (20, 16) := ((hd.2.2.2 32 (by decide)).1).trans k32
  replace z32 : M.2.2 32 = fun _ => .int 0 := ((hd.2.2.2 32 (by decide)).2).trans z32
  replace x12 : M.2.2 25 12 = .ref 32 := (congrFun (hd.2.2.2 25 (by decide)).2 12).trans x12
  replace k33 : M.2.1 33 = (20, 6) := ((hd.2.2.2 33 (by decide)).1).trans k33
  replace z33 : M.2.2 33 = fun _ => .int 0 := ((hd.2.2.2 33 (by decide)).2).trans z33
  replace x14 : M.2.2 25 14 = .ref 33 := (congrFun (hd.2.2.2 25 (by decide)).2 14).trans x14
  replace k34 : M.2.1 34 = (20, 6) := ((hd.2.2.2 34 (by decide)).1).trans k34
  replace z34 : M.2.2 34 = fun _ => .int 0 := ((hd.2.2.2 34 (by decide)).2).trans z34
  replace x15 : M.2.2 25 15 = .ref 34 := (congrFun (hd.2.2.2 25 (by decide)).2 15).trans x15
  replace k35 : M.2.1 35 = (20, 12) := ((hd.2.2.2 35 (by decide)).1).trans k35
  replace z35 : M.2.2 35 = fun _ => .int 0 := ((hd.2.2.2 35 (by decide)).2).trans z35
  replace x16 : M.2.2 25 16 = .ref 35 := (congrFun (hd.2.2.2 25 (by decide)).2 16).trans x16
  replace k36 : M.2.1 36 = (20, 12) := ((hd.2.2.2 36 (by decide)).1).trans k36
  replace z36 : M.2.2 36 = fun _ => .int 0 := ((hd.2.2.2 36 (by decide)).2).trans z36
  replace x17 : M.2.2 25 17 = .ref 36 := (congrFun (hd.2.2.2 25 (by decide)).2 17).trans x17
  replace k37 : M.2.1 37 = (20, 12) := ((hd.2.2.2 37 (by decide)).1).trans k37
  replace z37 : M.2.2 37 = fun _ => .int 0 := ((hd.2.2.2 37 (by decide)).2).trans z37
  replace x18 : M.2.2 25 18 = .ref 37 := (congrFun (hd.2.2.2 25 (by decide)).2 18).trans x18
  replace k38 : M.2.1 38 = (20, 12) := ((hd.2.2.2 38 (by decide)).1).trans k38
  replace z38 : M.2.2 38 = fun _ => .int 0 := ((hd.2.2.2 38 (by decide)).2).trans z38
  replace x19 : M.2.2 25 19 = .ref 38 := (congrFun (hd.2.2.2 25 (by decide)).2 19).trans x19
  replace k39 : M.2.1 39 = (20, 12) := ((hd.2.2.2 39 (by decide)).1).trans k39
  replace z39 : M.2.2 39 = fun _ => .int 0 := ((hd.2.2.2 39 (by decide)).2).trans z39
  replace x20 : M.2.2 25 20 = .ref 39 := (congrFun (hd.2.2.2 25 (by decide)).2 20).trans x20
  replace hF := hF.nw hd (by decide)
  have k40 : M.2.1 40 = (20, 12) := hd.2.1
  have z40 : M.2.2 40 = fun _ => .int 0 := hd.2.2.1
  replace hM : M.1 = 41 := hd.1
  clear hd
  refine fp_putF 122 dX12_init_122 ckF_RX12_52_12 ckQ_RX12_12_21 rfl kX rfl rfl (fun M hd => ?_)
  replace kX : M.2.1 25 = (12, 33) := (congrFun hd.2.1 25).trans kX
  replace x0 : M.2.2 25 0 = .int 0 := (hd.2.2.2 25 0 (by decide)).trans x0
  replace x1 : M.2.2 25 1 = .int 0 := (hd.2.2.2 25 1 (by decide)).trans x1
  replace x6 : M.2.2 25 6 = .int 0 := (hd.2.2.2 25 6 (by decide)).trans x6
  replace x8 : M.2.2 25 8 = .int 0 := (hd.2.2.2 25 8 (by decide)).trans x8
  replace x9 : M.2.2 25 9 = .int 0 := (hd.2.2.2 25 9 (by decide)).trans x9
  replace x10 : M.2.2 25 10 = .int 0 := (hd.2.2.2 25 10 (by decide)).trans x10
  replace x13 : M.2.2 25 13 = .int 0 := (hd.2.2.2 25 13 (by decide)).trans x13
  replace x23 : M.2.2 25 23 = .int 0 := (hd.2.2.2 25 23 (by decide)).trans x23
  replace x24 : M.2.2 25 24 = .int 0 := (hd.2.2.2 25 24 (by decide)).trans x24
  replace x32 : M.2.2 25 32 = .int 0 := (hd.2.2.2 25 32 (by decide)).trans x32
  replace k26 : M.2.1 26 = (20, 12) := (congrFun hd.2.1 26).trans k26
  replace z26 : M.2.2 26 = fun _ => .int 0 := (hd.toWd.2.2 26 (by decide)).trans z26
  replace x2 : M.2.2 25 2 = .ref 26 := (hd.2.2.2 25 2 (by decide)).trans x2
  replace k27 : M.2.1 27 = (20, 12) := (congrFun hd.2.1 27).trans k27
  replace z27 : M.2.2 27 = fun _ => .int 0 := (hd.toWd.2.2 27 (by decide)).trans z27
  replace x3 : M.2.2 25 3 = .ref 27 := (hd.2.2.2 25 3 (by decide)).trans x3
  replace k28 : M.2.1 28 = (20, 192) := (congrFun hd.2.1 28).trans k28
  replace z28 : M.2.2 28 = fun _ => .int 0 := (hd.toWd.2.2 28 (by decide)).trans z28
  replace x4 : M.2.2 25 4 = .ref 28 := (hd.2.2.2 25 4 (by decide)).trans x4
  replace k29 : M.2.1 29 = (20, 32) := (congrFun hd.2.1 29).trans k29
  replace z29 : M.2.2 29 = fun _ => .int 0 := (hd.toWd.2.2 29 (by decide)).trans z29
  replace x5 : M.2.2 25 5 = .ref 29 := (hd.2.2.2 25 5 (by decide)).trans x5
  replace k30 : M.2.1 30 = (20, 25) := (congrFun hd.2.1 30).trans k30
  replace z30 : M.2.2 30 = fun _ => .int 0 := (hd.toWd.2.2 30 (by decide)).trans z30
  replace x7 : M.2.2 25 7 = .ref 30 := (hd.2.2.2 25 7 (by decide)).trans x7
  replace k31 : M.2.1 31 = (20, 16) := (congrFun hd.2.1 31).trans k31
  replace z31 : M.2.2 31 = fun _ => .int 0 := (hd.toWd.2.2 31 (by decide)).trans z31
  replace x11 : M.2.2 25 11 = .ref 31 := (hd.2.2.2 25 11 (by decide)).trans x11
  replace k32 : M.2.1 32 = (20, 16) := (congrFun hd.2.1 32).trans k32
  replace z32 : M.2.2 32 = fun _ => .int 0 := (hd.toWd.2.2 32 (by decide)).trans z32
  replace x12 : M.2.2 25 12 = .ref 32 := (hd.2.2.2 25 12 (by decide)).trans x12
  replace k33 : M.2.1 33 = (20, 6) := (congrFun hd.2.1 33).trans k33
  replace z33 : M.2.2 33 = fun _ => .int 0 := (hd.toWd.2.2 33 (by decide)).trans z33
  replace x14 : M.2.2 25 14 = .ref 33 := (hd.2.2.2 25 14 (by decide)).trans x14
  replace k34 : M.2.1 34 = (20, 6) := (congrFun hd.2.1 34).trans k34
  replace z34 : M.2.2 34 = fun _ => .int 0 := (hd.toWd.2.2 34 (by decide)).trans z34
  replace x15 : M.2.2 25 15 = .ref 34 := (hd.2.2.2 25 15 (by decide)).trans x15
  replace k35 : M.2.1 35 = (20, 12) := (congrFun hd.2.1 35).trans k35
  replace z35 : M.2.2 35 = fun _ => .int 0 := (hd.toWd.2.2 35 (by decide)).trans z35
  replace x16 : M.2.2 25 16 = .ref 35 := (hd.2.2.2 25 16 (by decide)).trans x16
  replace k36 : M.2.1 36 = (20, 12) := (congrFun hd.2.1 36).trans k36
  replace z36 : M.2.2 36 = fun _ => .int 0 := (hd.toWd.2.2 36 (by decide)).trans z36
  replace x17 : M.2.2 25 17 = .ref 36 := (hd.2.2.2 25 17 (by decide)).trans x17
  replace k37 : M.2.1 37 = (20, 12) := (congrFun hd.2.1 37).trans k37
  replace z37 : M.2.2 37 = fun _ => .int 0 := (hd.toWd.2.2 37 (by decide)).trans z37
  replace x18 : M.2.2 25 18 = .ref 37 := (hd.2.2.2 25 18 (by decide)).trans x18
  replace k38 : M.2.1 38 = (20, 12) := (congrFun hd.2.1 38).trans k38
  replace z38 : M.2.2 38 = fun _ => .int 0 := (hd.toWd.2.2 38 (by decide)).trans z38
  replace x19 : M.2.2 25 19 = .ref 38 := (hd.2.2.2 25 19 (by decide)).trans x19
  replace k39 : M.2.1 39 = (20, 12) := (congrFun hd.2.1 39).trans k39
  replace z39 : M.2.2 39 = fun _ => .int 0 := (hd.toWd.2.2 39 (by decide)).trans z39
  replace x20 : M.2.2 25 20 = .ref 39 := (hd.2.2.2 25 20 (by decide)).trans x20
  replace k40 : M.2.1 40 = (20, 12) := (congrFun hd.2.1 40).trans k40
  replace z40 : M.2.2 40 = fun _ => .int 0 := (hd.toWd.2.2 40 (by decide)).trans z40
  replace hF := hF.wd hd.toWd (by decide)
  replace hM := hd.1.trans hM
  have x21 : M.2.2 25 21 = .ref 40 := hd.2.2.1
  clear hd
  refine aw_aload0 125 dX12_init_125 ?_
  refine aw_sipush 126 300 dX12_init_126 (by decide) ?_
  refine na_new 129 (300) (41) dX12_init_129 rfl (by decide) hM (by decide) (by decide) (fun M hd => ?_)
  replace kX : M.2.1 25 = (12, 33) := ((hd.2.2.2 25 (by decide)).1).trans kX
  replace x0 : M.2.2 25 0 = .int 0 := (congrFun (hd.2.2.2 25 (by decide)).2 0).trans x0
  replace x1 : M.2.2 25 1 = .int 0 := (congrFun (hd.2.2.2 25 (by decide)).2 1).trans x1
  replace x6 : M.2.2 25 6 = .int 0 := (congrFun (hd.2.2.2 25 (by decide)).2 6).trans x6
  replace x8 : M.2.2 25 8 = .int 0 := (congrFun (hd.2.2.2 25 (by decide)).2 8).trans x8
  replace x9 : M.2.2 25 9 = .int 0 := (congrFun (hd.2.2.2 25 (by decide)).2 9).trans x9
  replace x10 : M.2.2 25 10 = .int 0 := (congrFun (hd.2.2.2 25 (by decide)).2 10).trans x10
  replace x13 : M.2.2 25 13 = .int 0 := (congrFun (hd.2.2.2 25 (by decide)).2 13).trans x13
  replace x23 : M.2.2 25 23 = .int 0 := (congrFun (hd.2.2.2 25 (by decide)).2 23).trans x23
  replace x24 : M.2.2 25 24 = .int 0 := (congrFun (hd.2.2.2 25 (by decide)).2 24).trans x24
  replace x32 : M.2.2 25 32 = .int 0 := (congrFun (hd.2.2.2 25 (by decide)).2 32).trans x32
  replace k26 : M.2.1 26 = (20, 12) := ((hd.2.2.2 26 (by decide)).1).trans k26
  replace z26 : M.2.2 26 = fun _ => .int 0 := ((hd.2.2.2 26 (by decide)).2).trans z26
  replace x2 : M.2.2 25 2 = .ref 26 := (congrFun (hd.2.2.2 25 (by decide)).2 2).trans x2
  replace k27 : M.2.1 27 = (20, 12) := ((hd.2.2.2 27 (by decide)).1).trans k27
  replace z27 : M.2.2 27 = fun _ => .int 0 := ((hd.2.2.2 27 (by decide)).2).trans z27
  replace x3 : M.2.2 25 3 = .ref 27 := (congrFun (hd.2.2.2 25 (by decide)).2 3).trans x3
  replace k28 : M.2.1 28 = (20, 192) := ((hd.2.2.2 28 (by decide)).1).trans k28
  replace z28 : M.2.2 28 = fun _ => .int 0 := ((hd.2.2.2 28 (by decide)).2).trans z28
  replace x4 : M.2.2 25 4 = .ref 28 := (congrFun (hd.2.2.2 25 (by decide)).2 4).trans x4
  replace k29 : M.2.1 29 = (20, 32) := ((hd.2.2.2 29 (by decide)).1).trans k29
  replace z29 : M.2.2 29 = fun _ => .int 0 := ((hd.2.2.2 29 (by decide)).2).trans z29
  replace x5 : M.2.2 25 5 = .ref 29 := (congrFun (hd.2.2.2 25 (by decide)).2 5).trans x5
  replace k30 : M.2.1 30 = (20, 25) := ((hd.2.2.2 30 (by decide)).1).trans k30
  replace z30 : M.2.2 30 = fun _ => .int 0 := ((hd.2.2.2 30 (by decide)).2).trans z30
  replace x7 : M.2.2 25 7 = .ref 30 := (congrFun (hd.2.2.2 25 (by decide)).2 7).trans x7
  replace k31 : M.2.1 31 = (20, 16) := ((hd.2.2.2 31 (by decide)).1).trans k31
  replace z31 : M.2.2 31 = fun _ => .int 0 := ((hd.2.2.2 31 (by decide)).2).trans z31
  replace x11 : M.2.2 25 11 = .ref 31 := (congrFun (hd.2.2.2 25 (by decide)).2 11).trans x11
  replace k32 : M.2.1 32 = (20, 16) := ((hd.2.2.2 32 (by decide)).1).trans k32
  replace z32 : M.2.2 32 = fun _ => .int 0 := ((hd.2.2.2 32 (by decide)).2).trans z32
  replace x12 : M.2.2 25 12 = .ref 32 := (congrFun (hd.2.2.2 25 (by decide)).2 12).trans x12
  replace k33 : M.2.1 33 = (20, 6) := ((hd.2.2.2 33 (by decide)).1).trans k33
  replace z33 : M.2.2 33 = fun _ => .int 0 := ((hd.2.2.2 33 (by decide)).2).trans z33
  replace x14 : M.2.2 25 14 = .ref 33 := (congrFun (hd.2.2.2 25 (by decide)).2 14).trans x14
  replace k34 : M.2.1 34 = (20, 6) := ((hd.2.2.2 34 (by decide)).1).trans k34
  replace z34 : M.2.2 34 = fun _ => .int 0 := ((hd.2.2.2 34 (by decide)).2).trans z34
  replace x15 : M.2.2 25 15 = .ref 34 := (congrFun (hd.2.2.2 25 (by decide)).2 15).trans x15
  replace k35 : M.2.1 35 = (20, 12) := ((hd.2.2.2 35 (by decide)).1).trans k35
  replace z35 : M.2.2 35 = fun _ => .int 0 := ((hd.2.2.2 35 (by decide)).2).trans z35
  replace x16 : M.2.2 25 16 = .ref 35 := (congrFun (hd.2.2.2 25 (by decide)).2 16).trans x16
  replace k36 : M.2.1 36 = (20, 12) := ((hd.2.2.2 36 (by decide)).1).trans k36
  replace z36 : M.2.2 36 = fun _ => .int 0 := ((hd.2.2.2 36 (by decide)).2).trans z36
  replace x17 : M.2.2 25 17 = .ref 36 := (congrFun (hd.2.2.2 25 (by decide)).2 17).trans x17
  replace k37 : M.2.1 37 = (20, 12) := ((hd.2.2.2 37 (by decide)).1).trans k37
  replace z37 : M.2.2 37 = fun _ => .int 0 := ((hd.2.2.2 37 (by decide)).2).trans z37
  replace x18 : M.2.2 25 18 = .ref 37 := (congrFun (hd.2.2.2 25 (by decide)).2 18).trans x18
  replace k38 : M.2.1 38 = (20, 12) := ((hd.2.2.2 38 (by decide)).1).trans k38
  replace z38 : M.2.2 38 = fun _ => .int 0 := ((hd.2.2.2 38 (by decide)).2).trans z38
  replace x19 : M.2.2 25 19 = .ref 38 := (congrFun (hd.2.2.2 25 (by decide)).2 19).trans x19
  replace k39 : M.2.1 39 = (20, 12) := ((hd.2.2.2 39 (by decide)).1).trans k39
  replace z39 : M.2.2 39 = fun _ => .int 0 := ((hd.2.2.2 39 (by decide)).2).trans z39
  replace x20 : M.2.2 25 20 = .ref 39 := (congrFun (hd.2.2.2 25 (by decide)).2 20).trans x20
  replace k40 : M.2.1 40 = (20, 12) := ((hd.2.2.2 40 (by decide)).1).trans k40
  replace z40 : M.2.2 40 = fun _ => .int 0 := ((hd.2.2.2 40 (by decide)).2).trans z40
  replace x21 : M.2.2 25 21 = .ref 40 := (congrFun (hd.2.2.2 25 (by decide)).2 21).trans x21
  replace hF := hF.nw hd (by decide)
  have k41 : M.2.1 41 = (20, 300) := hd.2.1
  have z41 : M.2.2 41 = fun _ => .int 0 := hd.2.2.1
  replace hM : M.1 = 42 := hd.1
  clear hd
  refine fp_putF 131 dX12_init_131 ckF_RX12_55_12 ckQ_RX12_12_22 rfl kX rfl rfl (fun M hd => ?_)
  replace kX : M.2.1 25 = (12, 33) := (congrFun hd.2.1 25).trans kX
  replace x0 : M.2.2 25 0 = .int 0 := (hd.2.2.2 25 0 (by decide)).trans x0
  replace x1 : M.2.2 25 1 = .int 0 := (hd.2.2.2 25 1 (by decide)).trans x1
  replace x6 : M.2.2 25 6 = .int 0 := (hd.2.2.2 25 6 (by decide)).trans x6
  replace x8 : M.2.2 25 8 = .int 0 := (hd.2.2.2 25 8 (by decide)).trans x8
  replace x9 : M.2.2 25 9 = .int 0 := (hd.2.2.2 25 9 (by decide)).trans x9
  replace x10 : M.2.2 25 10 = .int 0 := (hd.2.2.2 25 10 (by decide)).trans x10
  replace x13 : M.2.2 25 13 = .int 0 := (hd.2.2.2 25 13 (by decide)).trans x13
  replace x23 : M.2.2 25 23 = .int 0 := (hd.2.2.2 25 23 (by decide)).trans x23
  replace x24 : M.2.2 25 24 = .int 0 := (hd.2.2.2 25 24 (by decide)).trans x24
  replace x32 : M.2.2 25 32 = .int 0 := (hd.2.2.2 25 32 (by decide)).trans x32
  replace k26 : M.2.1 26 = (20, 12) := (congrFun hd.2.1 26).trans k26
  replace z26 : M.2.2 26 = fun _ => .int 0 := (hd.toWd.2.2 26 (by decide)).trans z26
  replace x2 : M.2.2 25 2 = .ref 26 := (hd.2.2.2 25 2 (by decide)).trans x2
  replace k27 : M.2.1 27 = (20, 12) := (congrFun hd.2.1 27).trans k27
  replace z27 : M.2.2 27 = fun _ => .int 0 := (hd.toWd.2.2 27 (by decide)).trans z27
  replace x3 : M.2.2 25 3 = .ref 27 := (hd.2.2.2 25 3 (by decide)).trans x3
  replace k28 : M.2.1 28 = (20, 192) := (congrFun hd.2.1 28).trans k28
  replace z28 : M.2.2 28 = fun _ => .int 0 := (hd.toWd.2.2 28 (by decide)).trans z28
  replace x4 : M.2.2 25 4 = .ref 28 := (hd.2.2.2 25 4 (by decide)).trans x4
  replace k29 : M.2.1 29 = (20, 32) := (congrFun hd.2.1 29).trans k29
  replace z29 : M.2.2 29 = fun _ => .int 0 := (hd.toWd.2.2 29 (by decide)).trans z29
  replace x5 : M.2.2 25 5 = .ref 29 := (hd.2.2.2 25 5 (by decide)).trans x5
  replace k30 : M.2.1 30 = (20, 25) := (congrFun hd.2.1 30).trans k30
  replace z30 : M.2.2 30 = fun _ => .int 0 := (hd.toWd.2.2 30 (by decide)).trans z30
  replace x7 : M.2.2 25 7 = .ref 30 := (hd.2.2.2 25 7 (by decide)).trans x7
  replace k31 : M.2.1 31 = (20, 16) := (congrFun hd.2.1 31).trans k31
  replace z31 : M.2.2 31 = fun _ => .int 0 := (hd.toWd.2.2 31 (by decide)).trans z31
  replace x11 : M.2.2 25 11 = .ref 31 := (hd.2.2.2 25 11 (by decide)).trans x11
  replace k32 : M.2.1 32 = (20, 16) := (congrFun hd.2.1 32).trans k32
  replace z32 : M.2.2 32 = fun _ => .int 0 := (hd.toWd.2.2 32 (by decide)).trans z32
  replace x12 : M.2.2 25 12 = .ref 32 := (hd.2.2.2 25 12 (by decide)).trans x12
  replace k33 : M.2.1 33 = (20, 6) := (congrFun hd.2.1 33).trans k33
  replace z33 : M.2.2 33 = fun _ => .int 0 := (hd.toWd.2.2 33 (by decide)).trans z33
  replace x14 : M.2.2 25 14 = .ref 33 := (hd.2.2.2 25 14 (by decide)).trans x14
  replace k34 : M.2.1 34 = (20, 6) := (congrFun hd.2.1 34).trans k34
  replace z34 : M.2.2 34 = fun _ => .int 0 := (hd.toWd.2.2 34 (by decide)).trans z34
  replace x15 : M.2.2 25 15 = .ref 34 := (hd.2.2.2 25 15 (by decide)).trans x15
  replace k35 : M.2.1 35 = (20, 12) := (congrFun hd.2.1 35).trans k35
  replace z35 : M.2.2 35 = fun _ => .int 0 := (hd.toWd.2.2 35 (by decide)).trans z35
  replace x16 : M.2.2 25 16 = .ref 35 := (hd.2.2.2 25 16 (by decide)).trans x16
  replace k36 : M.2.1 36 = (20, 12) := (congrFun hd.2.1 36).trans k36
  replace z36 : M.2.2 36 = fun _ => .int 0 := (hd.toWd.2.2 36 (by decide)).trans z36
  replace x17 : M.2.2 25 17 = .ref 36 := (hd.2.2.2 25 17 (by decide)).trans x17
  replace k37 : M.2.1 37 = (20, 12) := (congrFun hd.2.1 37).trans k37
  replace z37 : M.2.2 37 = fun _ => .int 0 := (hd.toWd.2.2 37 (by decide)).trans z37
  replace x18 : M.2.2 25 18 = .ref 37 := (hd.2.2.2 25 18 (by decide)).trans x18
  replace k38 : M.2.1 38 = (20, 12) := (congrFun hd.2.1 38).trans k38
  replace z38 : M.2.2 38 = fun _ => .int 0 := (hd.toWd.2.2 38 (by decide)).trans z38
  replace x19 : M.2.2 25 19 = .ref 38 := (hd.2.2.2 25 19 (by decide)).trans x19
  replace k39 : M.2.1 39 = (20, 12) := (congrFun hd.2.1 39).trans k39
  replace z39 : M.2.2 39 = fun _ => .int 0 := (hd.toWd.2.2 39 (by decide)).trans z39
  replace x20 : M.2.2 25 20 = .ref 39 := (hd.2.2.2 25 20 (by decide)).trans x20
  replace k40 : M.2.1 40 = (20, 12) := (congrFun hd.2.1 40).trans k40
  replace z40 : M.2.2 40 = fun _ => .int 0 := (hd.toWd.2.2 40 (by decide)).trans z40
  replace x21 : M.2.2 25 21 = .ref 40 := (hd.2.2.2 25 21 (by decide)).trans x21
  replace k41 : M.2.1 41 = (20, 300) := (congrFun hd.2.1 41).trans k41
  replace z41 : M.2.2 41 = fun _ => .int 0 := (hd.toWd.2.2 41 (by decide)).trans z41
  replace hF := hF.wd hd.toWd (by decide)
  replace hM := hd.1.trans hM
  have x22 : M.2.2 25 22 = .ref 41 := hd.2.2.1
  clear hd
  refine aw_aload0 134 dX12_init_134 ?_
  refine aw_bipush 135 9 dX12_init_135 (by decide) ?_
  refine na_new 137 (9) (42) dX12_init_137 rfl (by decide) hM (by decide) (by decide) (fun M hd => ?_)
  replace kX : M.2.1 25 = (12, 33) := ((hd.2.2.2 25 (by decide)).1).trans kX
  replace x0 : M.2.2 25 0 = .int 0 := (congrFun (hd.2.2.2 25 (by decide)).2 0).trans x0
  replace x1 : M.2.2 25 1 = .int 0 := (congrFun (hd.2.2.2 25 (by decide)).2 1).trans x1
  replace x6 : M.2.2 25 6 = .int 0 := (congrFun (hd.2.2.2 25 (by decide)).2 6).trans x6
  replace x8 : M.2.2 25 8 = .int 0 := (congrFun (hd.2.2.2 25 (by decide)).2 8).trans x8
  replace x9 : M.2.2 25 9 = .int 0 := (congrFun (hd.2.2.2 25 (by decide)).2 9).trans x9
  replace x10 : M.2.2 25 10 = .int 0 := (congrFun (hd.2.2.2 25 (by decide)).2 10).trans x10
  replace x13 : M.2.2 25 13 = .int 0 := (congrFun (hd.2.2.2 25 (by decide)).2 13).trans x13
  replace x23 : M.2.2 25 23 = .int 0 := (congrFun (hd.2.2.2 25 (by decide)).2 23).trans x23
  replace x24 : M.2.2 25 24 = .int 0 := (congrFun (hd.2.2.2 25 (by decide)).2 24).trans x24
  replace x32 : M.2.2 25 32 = .int 0 := (congrFun (hd.2.2.2 25 (by decide)).2 32).trans x32
  replace k26 : M.2.1 26 = (20, 12) := ((hd.2.2.2 26 (by decide)).1).trans k26
  replace z26 : M.2.2 26 = fun _ => .int 0 := ((hd.2.2.2 26 (by decide)).2).trans z26
  replace x2 : M.2.2 25 2 = .ref 26 := (congrFun (hd.2.2.2 25 (by decide)).2 2).trans x2
  replace k27 : M.2.1 27 = (20, 12) := ((hd.2.2.2 27 (by decide)).1).trans k27
  replace z27 : M.2.2 27 = fun _ => .int 0 := ((hd.2.2.2 27 (by decide)).2).trans z27
  replace x3 : M.2.2 25 3 = .ref 27 := (congrFun (hd.2.2.2 25 (by decide)).2 3).trans x3
  replace k28 : M.2.1 28 = (20, 192) := ((hd.2.2.2 28 (by decide)).1).trans k28
  replace z28 : M.2.2 28 = fun _ => .int 0 := ((hd.2.2.2 28 (by decide)).2).trans z28
  replace x4 : M.2.2 25 4 = .ref 28 := (congrFun (hd.2.2.2 25 (by decide)).2 4).trans x4
  replace k29 : M.2.1 29 = (20, 32) := ((hd.2.2.2 29 (by decide)).1).trans k29
  replace z29 : M.2.2 29 = fun _ => .int 0 := ((hd.2.2.2 29 (by decide)).2).trans z29
  replace x5 : M.2.2 25 5 = .ref 29 := (congrFun (hd.2.2.2 25 (by decide)).2 5).trans x5
  replace k30 : M.2.1 30 = (20, 25) := ((hd.2.2.2 30 (by decide)).1).trans k30
  replace z30 : M.2.2 30 = fun _ => .int 0 := ((hd.2.2.2 30 (by decide)).2).trans z30
  replace x7 : M.2.2 25 7 = .ref 30 := (congrFun (hd.2.2.2 25 (by decide)).2 7).trans x7
  replace k31 : M.2.1 31 = (20, 16) := ((hd.2.2.2 31 (by decide)).1).trans k31
  replace z31 : M.2.2 31 = fun _ => .int 0 := ((hd.2.2.2 31 (by decide)).2).trans z31
  replace x11 : M.2.2 25 11 = .ref 31 := (congrFun (hd.2.2.2 25 (by decide)).2 11).trans x11
  replace k32 : M.2.1 32 = (20, 16) := ((hd.2.2.2 32 (by decide)).1).trans k32
  replace z32 : M.2.2 32 = fun _ => .int 0 := ((hd.2.2.2 32 (by decide)).2).trans z32
  replace x12 : M.2.2 25 12 = .ref 32 := (congrFun (hd.2.2.2 25 (by decide)).2 12).trans x12
  replace k33 : M.2.1 33 = (20, 6) := ((hd.2.2.2 33 (by decide)).1).trans k33
  replace z33 : M.2.2 33 = fun _ => .int 0 := ((hd.2.2.2 33 (by decide)).2).trans z33
  replace x14 : M.2.2 25 14 = .ref 33 := (congrFun (hd.2.2.2 25 (by decide)).2 14).trans x14
  replace k34 : M.2.1 34 = (20, 6) := ((hd.2.2.2 34 (by decide)).1).trans k34
  replace z34 : M.2.2 34 = fun _ => .int 0 := ((hd.2.2.2 34 (by decide)).2).trans z34
  replace x15 : M.2.2 25 15 = .ref 34 := (congrFun (hd.2.2.2 25 (by decide)).2 15).trans x15
  replace k35 : M.2.1 35 = (20, 12) := ((hd.2.2.2 35 (by decide)).1).trans k35
  replace z35 : M.2.2 35 = fun _ => .int 0 := ((hd.2.2.2 35 (by decide)).2).trans z35
  replace x16 : M.2.2 25 16 = .ref 35 := (congrFun (hd.2.2.2 25 (by decide)).2 16).trans x16
  replace k36 : M.2.1 36 = (20, 12) := ((hd.2.2.2 36 (by decide)).1).trans k36
  replace z36 : M.2.2 36 = fun _ => .int 0 := ((hd.2.2.2 36 (by decide)).2).trans z36
  replace x17 : M.2.2 25 17 = .ref 36 := (congrFun (hd.2.2.2 25 (by decide)).2 17).trans x17
  replace k37 : M.2.1 37 = (20, 12) := ((hd.2.2.2 37 (by decide)).1).trans k37
  replace z37 : M.2.2 37 = fun _ => .int 0 := ((hd.2.2.2 37 (by decide)).2).trans z37
  replace x18 : M.2.2 25 18 = .ref 37 := (congrFun (hd.2.2.2 25 (by decide)).2 18).trans x18
  replace k38 : M.2.1 38 = (20, 12) := ((hd.2.2.2 38 (by decide)).1).trans k38
  replace z38 : M.2.2 38 = fun _ => .int 0 := ((hd.2.2.2 38 (by decide)).2).trans z38
  replace x19 : M.2.2 25 19 = .ref 38 := (congrFun (hd.2.2.2 25 (by decide)).2 19).trans x19
  replace k39 : M.2.1 39 = (20, 12) := ((hd.2.2.2 39 (by decide)).1).trans k39
  replace z39 : M.2.2 39 = fun _ => .int 0 := ((hd.2.2.2 39 (by decide)).2).trans z39
  replace x20 : M.2.2 25 20 = .ref 39 := (congrFun (hd.2.2.2 25 (by decide)).2 20).trans x20
  replace k40 : M.2.1 40 = (20, 12) := ((hd.2.2.2 40 (by decide)).1).trans k40
  replace z40 : M.2.2 40 = fun _ => .int 0 := ((hd.2.2.2 40 (by decide)).2).trans z40
  replace x21 : M.2.2 25 21 = .ref 40 := (congrFun (hd.2.2.2 25 (by decide)).2 21).trans x21
  replace k41 : M.2.1 41 = (20, 300) := ((hd.2.2.2 41 (by decide)).1).trans k41
  replace z41 : M.2.2 41 = fun _ => .int 0 := ((hd.2.2.2 41 (by decide)).2).trans z41
  replace x22 : M.2.2 25 22 = .ref 41 := (congrFun (hd.2.2.2 25 (by decide)).2 22).trans x22
  replace hF := hF.nw hd (by decide)
  have k42 : M.2.1 42 = (20, 9) := hd.2.1
  have z42 : M.2.2 42 = fun _ => .int 0 := hd.2.2.1
  replace hM : M.1 = 43 := hd.1
  clear hd
  refine fp_putF 139 dX12_init_139 ckF_RX12_58_12 ckQ_RX12_12_25 rfl kX rfl rfl (fun M hd => ?_)
  replace kX : M.2.1 25 = (12, 33) := (congrFun hd.2.1 25).trans kX
  replace x0 : M.2.2 25 0 = .int 0 := (hd.2.2.2 25 0 (by decide)).trans x0
  replace x1 : M.2.2 25 1 = .int 0 := (hd.2.2.2 25 1 (by decide)).trans x1
  replace x6 : M.2.2 25 6 = .int 0 := (hd.2.2.2 25 6 (by decide)).trans x6
  replace x8 : M.2.2 25 8 = .int 0 := (hd.2.2.2 25 8 (by decide)).trans x8
  replace x9 : M.2.2 25 9 = .int 0 := (hd.2.2.2 25 9 (by decide)).trans x9
  replace x10 : M.2.2 25 10 = .int 0 := (hd.2.2.2 25 10 (by decide)).trans x10
  replace x13 : M.2.2 25 13 = .int 0 := (hd.2.2.2 25 13 (by decide)).trans x13
  replace x23 : M.2.2 25 23 = .int 0 := (hd.2.2.2 25 23 (by decide)).trans x23
  replace x24 : M.2.2 25 24 = .int 0 := (hd.2.2.2 25 24 (by decide)).trans x24
  replace x32 : M.2.2 25 32 = .int 0 := (hd.2.2.2 25 32 (by decide)).trans x32
  replace k26 : M.2.1 26 = (20, 12) := (congrFun hd.2.1 26).trans k26
  replace z26 : M.2.2 26 = fun _ => .int 0 := (hd.toWd.2.2 26 (by decide)).trans z26
  replace x2 : M.2.2 25 2 = .ref 26 := (hd.2.2.2 25 2 (by decide)).trans x2
  replace k27 : M.2.1 27 = (20, 12) := (congrFun hd.2.1 27).trans k27
  replace z27 : M.2.2 27 = fun _ => .int 0 := (hd.toWd.2.2 27 (by decide)).trans z27
  replace x3 : M.2.2 25 3 = .ref 27 := (hd.2.2.2 25 3 (by decide)).trans x3
  replace k28 : M.2.1 28 = (20, 192) := (congrFun hd.2.1 28).trans k28
  replace z28 : M.2.2 28 = fun _ => .int 0 := (hd.toWd.2.2 28 (by decide)).trans z28
  replace x4 : M.2.2 25 4 = .ref 28 := (hd.2.2.2 25 4 (by decide)).trans x4
  replace k29 : M.2.1 29 = (20, 32) := (congrFun hd.2.1 29).trans k29
  replace z29 : M.2.2 29 = fun _ => .int 0 := (hd.toWd.2.2 29 (by decide)).trans z29
  replace x5 : M.2.2 25 5 = .ref 29 := (hd.2.2.2 25 5 (by decide)).trans x5
  replace k30 : M.2.1 30 = (20, 25) := (congrFun hd.2.1 30).trans k30
  replace z30 : M.2.2 30 = fun _ => .int 0 := (hd.toWd.2.2 30 (by decide)).trans z30
  replace x7 : M.2.2 25 7 = .ref 30 := (hd.2.2.2 25 7 (by decide)).trans x7
  replace k31 : M.2.1 31 = (20, 16) := (congrFun hd.2.1 31).trans k31
  replace z31 : M.2.2 31 = fun _ => .int 0 := (hd.toWd.2.2 31 (by decide)).trans z31
  replace x11 : M.2.2 25 11 = .ref 31 := (hd.2.2.2 25 11 (by decide)).trans x11
  replace k32 : M.2.1 32 = (20, 16) := (congrFun hd.2.1 32).trans k32
  replace z32 : M.2.2 32 = fun _ => .int 0 := (hd.toWd.2.2 32 (by decide)).trans z32
  replace x12 : M.2.2 25 12 = .ref 32 := (hd.2.2.2 25 12 (by decide)).trans x12
  replace k33 : M.2.1 33 = (20, 6) := (congrFun hd.2.1 33).trans k33
  replace z33 : M.2.2 33 = fun _ => .int 0 := (hd.toWd.2.2 33 (by decide)).trans z33
  replace x14 : M.2.2 25 14 = .ref 33 := (hd.2.2.2 25 14 (by decide)).trans x14
  replace k34 : M.2.1 34 = (20, 6) := (congrFun hd.2.1 34).trans k34
  replace z34 : M.2.2 34 = fun _ => .int 0 := (hd.toWd.2.2 34 (by decide)).trans z34
  replace x15 : M.2.2 25 15 = .ref 34 := (hd.2.2.2 25 15 (by decide)).trans x15
  replace k35 : M.2.1 35 = (20, 12) := (congrFun hd.2.1 35).trans k35
  replace z35 : M.2.2 35 = fun _ => .int 0 := (hd.toWd.2.2 35 (by decide)).trans z35
  replace x16 : M.2.2 25 16 = .ref 35 := (hd.2.2.2 25 16 (by decide)).trans x16
  replace k36 : M.2.1 36 = (20, 12) := (congrFun hd.2.1 36).trans k36
  replace z36 : M.2.2 36 = fun _ => .int 0 := (hd.toWd.2.2 36 (by decide)).trans z36
  replace x17 : M.2.2 25 17 = .ref 36 := (hd.2.2.2 25 17 (by decide)).trans x17
  replace k37 : M.2.1 37 = (20, 12) := (congrFun hd.2.1 37).trans k37
  replace z37 : M.2.2 37 = fun _ => .int 0 := (hd.toWd.2.2 37 (by decide)).trans z37
  replace x18 : M.2.2 25 18 = .ref 37 := (hd.2.2.2 25 18 (by decide)).trans x18
  replace k38 : M.2.1 38 = (20, 12) := (congrFun hd.2.1 38).trans k38
  replace z38 : M.2.2 38 = fun _ => .int 0 := (hd.toWd.2.2 38 (by decide)).trans z38
  replace x19 : M.2.2 25 19 = .ref 38 := (hd.2.2.2 25 19 (by decide)).trans x19
  replace k39 : M.2.1 39 = (20, 12) := (congrFun hd.2.1 39).trans k39
  replace z39 : M.2.2 39 = fun _ => .int 0 := (hd.toWd.2.2 39 (by decide)).trans z39
  replace x20 : M.2.2 25 20 = .ref 39 := (hd.2.2.2 25 20 (by decide)).trans x20
  replace k40 : M.2.1 40 = (20, 12) := (congrFun hd.2.1 40).trans k40
  replace z40 : M.2.2 40 = fun _ => .int 0 := (hd.toWd.2.2 40 (by decide)).trans z40
  replace x21 : M.2.2 25 21 = .ref 40 := (hd.2.2.2 25 21 (by decide)).trans x21
  replace k41 : M.2.1 41 = (20, 300) := (congrFun hd.2.1 41).trans k41
  replace z41 : M.2.2 41 = fun _ => .int 0 := (hd.toWd.2.2 41 (by decide)).trans z41
  replace x22 : M.2.2 25 22 = .ref 41 := (hd.2.2.2 25 22 (by decide)).trans x22
  replace k42 : M.2.1 42 = (20, 9) := (congrFun hd.2.1 42).trans k42
  replace z42 : M.2.2 42 = fun _ => .int 0 := (hd.toWd.2.2 42 (by decide)).trans z42
  replace hF := hF.wd hd.toWd (by decide)
  replace hM := hd.1.trans hM
  have x25 : M.2.2 25 25 = .ref 42 := hd.2.2.1
  clear hd
  refine aw_aload0 142 dX12_init_142 ?_
  refine aw_bipush 143 9 dX12_init_143 (by decide) ?_
  refine na_new 145 (9) (43) dX12_init_145 rfl (by decide) hM (by decide) (by decide) (fun M hd => ?_)
  replace kX : M.2.1 25 = (12, 33) := ((hd.2.2.2 25 (by decide)).1).trans kX
  replace x0 : M.2.2 25 0 = .int 0 := (congrFun (hd.2.2.2 25 (by decide)).2 0).trans x0
  replace x1 : M.2.2 25 1 = .int 0 := (congrFun (hd.2.2.2 25 (by decide)).2 1).trans x1
  replace x6 : M.2.2 25 6 = .int 0 := (congrFun (hd.2.2.2 25 (by decide)).2 6).trans x6
  replace x8 : M.2.2 25 8 = .int 0 := (congrFun (hd.2.2.2 25 (by decide)).2 8).trans x8
  replace x9 : M.2.2 25 9 = .int 0 := (congrFun (hd.2.2.2 25 (by decide)).2 9).trans x9
  replace x10 : M.2.2 25 10 = .int 0 := (congrFun (hd.2.2.2 25 (by decide)).2 10).trans x10
  replace x13 : M.2.2 25 13 = .int 0 := (congrFun (hd.2.2.2 25 (by decide)).2 13).trans x13
  replace x23 : M.2.2 25 23 = .int 0 := (congrFun (hd.2.2.2 25 (by decide)).2 23).trans x23
  replace x24 : M.2.2 25 24 = .int 0 := (congrFun (hd.2.2.2 25 (by decide)).2 24).trans x24
  replace x32 : M.2.2 25 32 = .int 0 := (congrFun (hd.2.2.2 25 (by decide)).2 32).trans x32
  replace k26 : M.2.1 26 = (20, 12) := ((hd.2.2.2 26 (by decide)).1).trans k26
  replace z26 : M.2.2 26 = fun _ => .int 0 := ((hd.2.2.2 26 (by decide)).2).trans z26
  replace x2 : M.2.2 25 2 = .ref 26 := (congrFun (hd.2.2.2 25 (by decide)).2 2).trans x2
  replace k27 : M.2.1 27 = (20, 12) := ((hd.2.2.2 27 (by decide)).1).trans k27
  replace z27 : M.2.2 27 = fun _ => .int 0 := ((hd.2.2.2 27 (by decide)).2).trans z27
  replace x3 : M.2.2 25 3 = .ref 27 := (congrFun (hd.2.2.2 25 (by decide)).2 3).trans x3
  replace k28 : M.2.1 28 = (20, 192) := ((hd.2.2.2 28 (by decide)).1).trans k28
  replace z28 : M.2.2 28 = fun _ => .int 0 := ((hd.2.2.2 28 (by decide)).2).trans z28
  replace x4 : M.2.2 25 4 = .ref 28 := (congrFun (hd.2.2.2 25 (by decide)).2 4).trans x4
  replace k29 : M.2.1 29 = (20, 32) := ((hd.2.2.2 29 (by decide)).1).trans k29
  replace z29 : M.2.2 29 = fun _ => .int 0 := ((hd.2.2.2 29 (by decide)).2).trans z29
  replace x5 : M.2.2 25 5 = .ref 29 := (congrFun (hd.2.2.2 25 (by decide)).2 5).trans x5
  replace k30 : M.2.1 30 = (20, 25) := ((hd.2.2.2 30 (by decide)).1).trans k30
  replace z30 : M.2.2 30 = fun _ => .int 0 := ((hd.2.2.2 30 (by decide)).2).trans z30
  replace x7 : M.2.2 25 7 = .ref 30 := (congrFun (hd.2.2.2 25 (by decide)).2 7).trans x7
  replace k31 : M.2.1 31 = (20, 16) := ((hd.2.2.2 31 (by decide)).1).trans k31
  replace z31 : M.2.2 31 = fun _ => .int 0 := ((hd.2.2.2 31 (by decide)).2).trans z31
  replace x11 : M.2.2 25 11 = .ref 31 := (congrFun (hd.2.2.2 25 (by decide)).2 11).trans x11
  replace k32 : M.2.1 32 = (20, 16) := ((hd.2.2.2 32 (by decide)).1).trans k32
  replace z32 : M.2.2 32 = fun _ => .int 0 := ((hd.2.2.2 32 (by decide)).2).trans z32
  replace x12 : M.2.2 25 12 = .ref 32 := (congrFun (hd.2.2.2 25 (by decide)).2 12).trans x12
  replace k33 : M.2.1 33 = (20, 6) := ((hd.2.2.2 33 (by decide)).1).trans k33
  replace z33 : M.2.2 33 = fun _ => .int 0 := ((hd.2.2.2 33 (by decide)).2).trans z33
  replace x14 : M.2.2 25 14 = .ref 33 := (congrFun (hd.2.2.2 25 (by decide)).2 14).trans x14
  replace k34 : M.2.1 34 = (20, 6) := ((hd.2.2.2 34 (by decide)).1).trans k34
  replace z34 : M.2.2 34 = fun _ => .int 0 := ((hd.2.2.2 34 (by decide)).2).trans z34
  replace x15 : M.2.2 25 15 = .ref 34 := (congrFun (hd.2.2.2 25 (by decide)).2 15).trans x15
  replace k35 : M.2.1 35 = (20, 12) := ((hd.2.2.2 35 (by decide)).1).trans k35
  replace z35 : M.2.2 35 = fun _ => .int 0 := ((hd.2.2.2 35 (by decide)).2).trans z35
  replace x16 : M.2.2 25 16 = .ref 35 := (congrFun (hd.2.2.2 25 (by decide)).2 16).trans x16
  replace k36 : M.2.1 36 = (20, 12) := ((hd.2.2.2 36 (by decide)).1).trans k36
  replace z36 : M.2.2 36 = fun _ => .int 0 := ((hd.2.2.2 36 (by decide)).2).trans z36
  replace x17 : M.2.2 25 17 = .ref 36 := (congrFun (hd.2.2.2 25 (by decide)).2 17).trans x17
  replace k37 : M.2.1 37 = (20, 12) := ((hd.2.2.2 37 (by decide)).1).trans k37
  replace z37 : M.2.2 37 = fun _ => .int 0 := ((hd.2.2.2 37 (by decide)).2).trans z37
  replace x18 : M.2.2 25 18 = .ref 37 := (congrFun (hd.2.2.2 25 (by decide)).2 18).trans x18
  replace k38 : M.2.1 38 = (20, 12) := ((hd.2.2.2 38 (by decide)).1).trans k38
  replace z38 : M.2.2 38 = fun _ => .int 0 := ((hd.2.2.2 38 (by decide)).2).trans z38
  replace x19 : M.2.2 25 19 = .ref 38 := (congrFun (hd.2.2.2 25 (by decide)).2 19).trans x19
  replace k39 : M.2.1 39 = (20, 12) := ((hd.2.2.2 39 (by decide)).1).trans k39
  replace z39 : M.2.2 39 = fun _ => .int 0 := ((hd.2.2.2 39 (by decide)).2).trans z39
  replace x20 : M.2.2 25 20 = .ref 39 := (congrFun (hd.2.2.2 25 (by decide)).2 20).trans x20
  replace k40 : M.2.1 40 = (20, 12) := ((hd.2.2.2 40 (by decide)).1).trans k40
  replace z40 : M.2.2 40 = fun _ => .int 0 := ((hd.2.2.2 40 (by decide)).2).trans z40
  replace x21 : M.2.2 25 21 = .ref 40 := (congrFun (hd.2.2.2 25 (by decide)).2 21).trans x21
  replace k41 : M.2.1 41 = (20, 300) := ((hd.2.2.2 41 (by decide)).1).trans k41
  replace z41 : M.2.2 41 = fun _ => .int 0 := ((hd.2.2.2 41 (by decide)).2).trans z41
  replace x22 : M.2.2 25 22 = .ref 41 := (congrFun (hd.2.2.2 25 (by decide)).2 22).trans x22
  replace k42 : M.2.1 42 = (20, 9) := ((hd.2.2.2 42 (by decide)).1).trans k42
  replace z42 : M.2.2 42 = fun _ => .int 0 := ((hd.2.2.2 42 (by decide)).2).trans z42
  replace x25 : M.2.2 25 25 = .ref 42 := (congrFun (hd.2.2.2 25 (by decide)).2 25).trans x25
  replace hF := hF.nw hd (by decide)
  have k43 : M.2.1 43 = (20, 9) := hd.2.1
  have z43 : M.2.2 43 = fun _ => .int 0 := hd.2.2.1
  replace hM : M.1 = 44 := hd.1
  clear hd
  refine fp_putF 147 dX12_init_147 ckF_RX12_61_12 ckQ_RX12_12_26 rfl kX rfl rfl (fun M hd => ?_)
  replace kX : M.2.1 25 = (12, 33) := (congrFun hd.2.1 25).trans kX
  replace x0 : M.2.2 25 0 = .int 0 := (hd.2.2.2 25 0 (by decide)).trans x0
  replace x1 : M.2.2 25 1 = .int 0 := (hd.2.2.2 25 1 (by decide)).trans x1
  replace x6 : M.2.2 25 6 = .int 0 := (hd.2.2.2 25 6 (by decide)).trans x6
  replace x8 : M.2.2 25 8 = .int 0 := (hd.2.2.2 25 8 (by decide)).trans x8
  replace x9 : M.2.2 25 9 = .int 0 := (hd.2.2.2 25 9 (by decide)).trans x9
  replace x10 : M.2.2 25 10 = .int 0 := (hd.2.2.2 25 10 (by decide)).trans x10
  replace x13 : M.2.2 25 13 = .int 0 := (hd.2.2.2 25 13 (by decide)).trans x13
  replace x23 : M.2.2 25 23 = .int 0 := (hd.2.2.2 25 23 (by decide)).trans x23
  replace x24 : M.2.2 25 24 = .int 0 := (hd.2.2.2 25 24 (by decide)).trans x24
  replace x32 : M.2.2 25 32 = .int 0 := (hd.2.2.2 25 32 (by decide)).trans x32
  replace k26 : M.2.1 26 = (20, 12) := (congrFun hd.2.1 26).trans k26
  replace z26 : M.2.2 26 = fun _ => .int 0 := (hd.toWd.2.2 26 (by decide)).trans z26
  replace x2 : M.2.2 25 2 = .ref 26 := (hd.2.2.2 25 2 (by decide)).trans x2
  replace k27 : M.2.1 27 = (20, 12) := (congrFun hd.2.1 27).trans k27
  replace z27 : M.2.2 27 = fun _ => .int 0 := (hd.toWd.2.2 27 (by decide)).trans z27
  replace x3 : M.2.2 25 3 = .ref 27 := (hd.2.2.2 25 3 (by decide)).trans x3
  replace k28 : M.2.1 28 = (20, 192) := (congrFun hd.2.1 28).trans k28
  replace z28 : M.2.2 28 = fun _ => .int 0 := (hd.toWd.2.2 28 (by decide)).trans z28
  replace x4 : M.2.2 25 4 = .ref 28 := (hd.2.2.2 25 4 (by decide)).trans x4
  replace k29 : M.2.1 29 = (20, 32) := (congrFun hd.2.1 29).trans k29
  replace z29 : M.2.2 29 = fun _ => .int 0 := (hd.toWd.2.2 29 (by decide)).trans z29
  replace x5 : M.2.2 25 5 = .ref 29 := (hd.2.2.2 25 5 (by decide)).trans x5
  replace k30 : M.2.1 30 = (20, 25) := (congrFun hd.2.1 30).trans k30
  replace z30 : M.2.2 30 = fun _ => .int 0 := (hd.toWd.2.2 30 (by decide)).trans z30
  replace x7 : M.2.2 25 7 = .ref 30 := (hd.2.2.2 25 7 (by decide)).trans x7
  replace k31 : M.2.1 31 = (20, 16) := (congrFun hd.2.1 31).trans k31
  replace z31 : M.2.2 31 = fun _ => .int 0 := (hd.toWd.2.2 31 (by decide)).trans z31
  replace x11 : M.2.2 25 11 = .ref 31 := (hd.2.2.2 25 11 (by decide)).trans x11
  replace k32 : M.2.1 32 = (20, 16) := (congrFun hd.2.1 32).trans k32
  replace z32 : M.2.2 32 = fun _ => .int 0 := (hd.toWd.2.2 32 (by decide)).trans z32
  replace x12 : M.2.2 25 12 = .ref 32 := (hd.2.2.2 25 12 (by decide)).trans x12
  replace k33 : M.2.1 33 = (20, 6) := (congrFun hd.2.1 33).trans k33
  replace z33 : M.2.2 33 = fun _ => .int 0 := (hd.toWd.2.2 33 (by decide)).trans z33
  replace x14 : M.2.2 25 14 = .ref 33 := (hd.2.2.2 25 14 (by decide)).trans x14
  replace k34 : M.2.1 34 = (20, 6) := (congrFun hd.2.1 34).trans k34
  replace z34 : M.2.2 34 = fun _ => .int 0 := (hd.toWd.2.2 34 (by decide)).trans z34
  replace x15 : M.2.2 25 15 = .ref 34 := (hd.2.2.2 25 15 (by decide)).trans x15
  replace k35 : M.2.1 35 = (20, 12) := (congrFun hd.2.1 35).trans k35
  replace z35 : M.2.2 35 = fun _ => .int 0 := (hd.toWd.2.2 35 (by decide)).trans z35
  replace x16 : M.2.2 25 16 = .ref 35 := (hd.2.2.2 25 16 (by decide)).trans x16
  replace k36 : M.2.1 36 = (20, 12) := (congrFun hd.2.1 36).trans k36
  replace z36 : M.2.2 36 = fun _ => .int 0 := (hd.toWd.2.2 36 (by decide)).trans z36
  replace x17 : M.2.2 25 17 = .ref 36 := (hd.2.2.2 25 17 (by decide)).trans x17
  replace k37 : M.2.1 37 = (20, 12) := (congrFun hd.2.1 37).trans k37
  replace z37 : M.2.2 37 = fun _ => .int 0 := (hd.toWd.2.2 37 (by decide)).trans z37
  replace x18 : M.2.2 25 18 = .ref 37 := (hd.2.2.2 25 18 (by decide)).trans x18
  replace k38 : M.2.1 38 = (20, 12) := (congrFun hd.2.1 38).trans k38
  replace z38 : M.2.2 38 = fun _ => .int 0 := (hd.toWd.2.2 38 (by decide)).trans z38
  replace x19 : M.2.2 25 19 = .ref 38 := (hd.2.2.2 25 19 (by decide)).trans x19
  replace k39 : M.2.1 39 = (20, 12) := (congrFun hd.2.1 39).trans k39
  replace z39 : M.2.2 39 = fun _ => .int 0 := (hd.toWd.2.2 39 (by decide)).trans z39
  replace x20 : M.2.2 25 20 = .ref 39 := (hd.2.2.2 25 20 (by decide)).trans x20
  replace k40 : M.2.1 40 = (20, 12) := (congrFun hd.2.1 40).trans k40
  replace z40 : M.2.2 40 = fun _ => .int 0 := (hd.toWd.2.2 40 (by decide)).trans z40
  replace x21 : M.2.2 25 21 = .ref 40 := (hd.2.2.2 25 21 (by decide)).trans x21
  replace k41 : M.2.1 41 = (20, 300) := (congrFun hd.2.1 41).trans k41
  replace z41 : M.2.2 41 = fun _ => .int 0 := (hd.toWd.2.2 41 (by decide)).trans z41
  replace x22 : M.2.2 25 22 = .ref 41 := (hd.2.2.2 25 22 (by decide)).trans x22
  replace k42 : M.2.1 42 = (20, 9) := (congrFun hd.2.1 42).trans k42
  replace z42 : M.2.2 42 = fun _ => .int 0 := (hd.toWd.2.2 42 (by decide)).trans z42
  replace x25 : M.2.2 25 25 = .ref 42 := (hd.2.2.2 25 25 (by decide)).trans x25
  replace k43 : M.2.1 43 = (20, 9) := (congrFun hd.2.1 43).trans k43
  replace z43 : M.2.2 43 = fun _ => .int 0 := (hd.toWd.2.2 43 (by decide)).trans z43
  replace hF := hF.wd hd.toWd (by decide)
  replace hM := hd.1.trans hM
  have x26 : M.2.2 25 26 = .ref 43 := hd.2.2.1
  clear hd
  refine aw_aload0 150 dX12_init_150 ?_
  refine aw_bipush 151 9 dX12_init_151 (by decide) ?_
  refine na_new 153 (9) (44) dX12_init_153 rfl (by decide) hM (by decide) (by decide) (fun M hd => ?_)
  replace kX : M.2.1 25 = (12, 33) := ((hd.2.2.2 25 (by decide)).1).trans kX
  replace x0 : M.2.2 25 0 = .int 0 := (congrFun (hd.2.2.2 25 (by decide)).2 0).trans x0
  replace x1 : M.2.2 25 1 = .int 0 := (congrFun (hd.2.2.2 25 (by decide)).2 1).trans x1
  replace x6 : M.2.2 25 6 = .int 0 := (congrFun (hd.2.2.2 25 (by decide)).2 6).trans x6
  replace x8 : M.2.2 25 8 = .int 0 := (congrFun (hd.2.2.2 25 (by decide)).2 8).trans x8
  replace x9 : M.2.2 25 9 = .int 0 := (congrFun (hd.2.2.2 25 (by decide)).2 9).trans x9
  replace x10 : M.2.2 25 10 = .int 0 := (congrFun (hd.2.2.2 25 (by decide)).2 10).trans x10
  replace x13 : M.2.2 25 13 = .int 0 := (congrFun (hd.2.2.2 25 (by decide)).2 13).trans x13
  replace x23 : M.2.2 25 23 = .int 0 := (congrFun (hd.2.2.2 25 (by decide)).2 23).trans x23
  replace x24 : M.2.2 25 24 = .int 0 := (congrFun (hd.2.2.2 25 (by decide)).2 24).trans x24
  replace x32 : M.2.2 25 32 = .int 0 := (congrFun (hd.2.2.2 25 (by decide)).2 32).trans x32
  replace k26 : M.2.1 26 = (20, 12) := ((hd.2.2.2 26 (by decide)).1).trans k26
  replace z26 : M.2.2 26 = fun _ => .int 0 := ((hd.2.2.2 26 (by decide)).2).trans z26
  replace x2 : M.2.2 25 2 = .ref 26 := (congrFun (hd.2.2.2 25 (by decide)).2 2).trans x2
  replace k27 : M.2.1 27 = (20, 12) := ((hd.2.2.2 27 (by decide)).1).trans k27
  replace z27 : M.2.2 27 = fun _ => .int 0 := ((hd.2.2.2 27 (by decide)).2).trans z27
  replace x3 : M.2.2 25 3 = .ref 27 := (congrFun (hd.2.2.2 25 (by decide)).2 3).trans x3
  replace k28 : M.2.1 28 = (20, 192) := ((hd.2.2.2 28 (by decide)).1).trans k28
  replace z28 : M.2.2 28 = fun _ => .int 0 := ((hd.2.2.2 28 (by decide)).2).trans z28
  replace x4 : M.2.2 25 4 = .ref 28 := (congrFun (hd.2.2.2 25 (by decide)).2 4).trans x4
  replace k29 : M.2.1 29 = (20, 32) := ((hd.2.2.2 29 (by decide)).1).trans k29
  replace z29 : M.2.2 29 = fun _ => .int 0 := ((hd.2.2.2 29 (by decide)).2).trans z29
  replace x5 : M.2.2 25 5 = .ref 29 := (congrFun (hd.2.2.2 25 (by decide)).2 5).trans x5
  replace k30 : M.2.1 30 = (20, 25) := ((hd.2.2.2 30 (by decide)).1).trans k30
  replace z30 : M.2.2 30 = fun _ => .int 0 := ((hd.2.2.2 30 (by decide)).2).trans z30
  replace x7 : M.2.2 25 7 = .ref 30 := (congrFun (hd.2.2.2 25 (by decide)).2 7).trans x7
  replace k31 : M.2.1 31 = (20, 16) := ((hd.2.2.2 31 (by decide)).1).trans k31
  replace z31 : M.2.2 31 = fun _ => .int 0 := ((hd.2.2.2 31 (by decide)).2).trans z31
  replace x11 : M.2.2 25 11 = .ref 31 := (congrFun (hd.2.2.2 25 (by decide)).2 11).trans x11
  replace k32 : M.2.1 32 = (20, 16) := ((hd.2.2.2 32 (by decide)).1).trans k32
  replace z32 : M.2.2 32 = fun _ => .int 0 := ((hd.2.2.2 32 (by decide)).2).trans z32
  replace x12 : M.2.2 25 12 = .ref 32 := (congrFun (hd.2.2.2 25 (by decide)).2 12).trans x12
  replace k33 : M.2.1 33 = (20, 6) := ((hd.2.2.2 33 (by decide)).1).trans k33
  replace z33 : M.2.2 33 = fun _ => .int 0 := ((hd.2.2.2 33 (by decide)).2).trans z33
  replace x14 : M.2.2 25 14 = .ref 33 := (congrFun (hd.2.2.2 25 (by decide)).2 14).trans x14
  replace k34 : M.2.1 34 = (20, 6) := ((hd.2.2.2 34 (by decide)).1).trans k34
  replace z34 : M.2.2 34 = fun _ => .int 0 := ((hd.2.2.2 34 (by decide)).2).trans z34
  replace x15 : M.2.2 25 15 = .ref 34 := (congrFun (hd.2.2.2 25 (by decide)).2 15).trans x15
  replace k35 : M.2.1 35 = (20, 12) := ((hd.2.2.2 35 (by decide)).1).trans k35
  replace z35 : M.2.2 35 = fun _ => .int 0 := ((hd.2.2.2 35 (by decide)).2).trans z35
  replace x16 : M.2.2 25 16 = .ref 35 := (congrFun (hd.2.2.2 25 (by decide)).2 16).trans x16
  replace k36 : M.2.1 36 = (20, 12) := ((hd.2.2.2 36 (by decide)).1).trans k36
  replace z36 : M.2.2 36 = fun _ => .int 0 := ((hd.2.2.2 36 (by decide)).2).trans z36
  replace x17 : M.2.2 25 17 = .ref 36 := (congrFun (hd.2.2.2 25 (by decide)).2 17).trans x17
  replace k37 : M.2.1 37 = (20, 12) := ((hd.2.2.2 37 (by decide)).1).trans k37
  replace z37 : M.2.2 37 = fun _ => .int 0 := ((hd.2.2.2 37 (by decide)).2).trans z37
  replace x18 : M.2.2 25 18 = .ref 37 := (congrFun (hd.2.2.2 25 (by decide)).2 18).trans x18
  replace k38 : M.2.1 38 = (20, 12) := ((hd.2.2.2 38 (by decide)).1).trans k38
  replace z38 : M.2.2 38 = fun _ => .int 0 := ((hd.2.2.2 38 (by decide)).2).trans z38
  replace x19 : M.2.2 25 19 = .ref 38 := (congrFun (hd.2.2.2 25 (by decide)).2 19).trans x19
  replace k39 : M.2.1 39 = (20, 12) := ((hd.2.2.2 39 (by decide)).1).trans k39
  replace z39 : M.2.2 39 = fun _ => .int 0 := ((hd.2.2.2 39 (by decide)).2).trans z39
  replace x20 : M.2.2 25 20 = .ref 39 := (congrFun (hd.2.2.2 25 (by decide)).2 20).trans x20
  replace k40 : M.2.1 40 = (20, 12) := ((hd.2.2.2 40 (by decide)).1).trans k40
  replace z40 : M.2.2 40 = fun _ => .int 0 := ((hd.2.2.2 40 (by decide)).2).trans z40
  replace x21 : M.2.2 25 21 = .ref 40 := (congrFun (hd.2.2.2 25 (by decide)).2 21).trans x21
  replace k41 : M.2.1 41 = (20, 300) := ((hd.2.2.2 41 (by decide)).1).trans k41
  replace z41 : M.2.2 41 = fun _ => .int 0 := ((hd.2.2.2 41 (by decide)).2).trans z41
  replace x22 : M.2.2 25 22 = .ref 41 := (congrFun (hd.2.2.2 25 (by decide)).2 22).trans x22
  replace k42 : M.2.1 42 = (20, 9) := ((hd.2.2.2 42 (by decide)).1).trans k42
  replace z42 : M.2.2 42 = fun _ => .int 0 := ((hd.2.2.2 42 (by decide)).2).trans z42
  replace x25 : M.2.2 25 25 = .ref 42 := (congrFun (hd.2.2.2 25 (by decide)).2 25).trans x25
  replace k43 : M.2.1 43 = (20, 9) := ((hd.2.2.2 43 (by decide)).1).trans k43
  replace z43 : M.2.2 43 = fun _ => .int 0 := ((hd.2.2.2 43 (by decide)).2).trans z43
  replace x26 : M.2.2 25 26 = .ref 43 := (congrFun (hd.2.2.2 25 (by decide)).2 26).trans x26
  replace hF := hF.nw hd (by decide)
  have k44 : M.2.1 44 = (20, 9) := hd.2.1
  have z44 : M.2.2 44 = fun _ => .int 0 := hd.2.2.1
  replace hM : M.1 = 45 := hd.1
  clear hd
  refine fp_putF 155 dX12_init_155 ckF_RX12_64_12 ckQ_RX12_12_27 rfl kX rfl rfl (fun M hd => ?_)
  replace kX : M.2.1 25 = (12, 33) := (congrFun hd.2.1 25).trans kX
  replace x0 : M.2.2 25 0 = .int 0 := (hd.2.2.2 25 0 (by decide)).trans x0
  replace x1 : M.2.2 25 1 = .int 0 := (hd.2.2.2 25 1 (by decide)).trans x1
  replace x6 : M.2.2 25 6 = .int 0 := (hd.2.2.2 25 6 (by decide)).trans x6
  replace x8 : M.2.2 25 8 = .int 0 := (hd.2.2.2 25 8 (by decide)).trans x8
  replace x9 : M.2.2 25 9 = .int 0 := (hd.2.2.2 25 9 (by decide)).trans x9
  replace x10 : M.2.2 25 10 = .int 0 := (hd.2.2.2 25 10 (by decide)).trans x10
  replace x13 : M.2.2 25 13 = .int 0 := (hd.2.2.2 25 13 (by decide)).trans x13
  replace x23 : M.2.2 25 23 = .int 0 := (hd.2.2.2 25 23 (by decide)).trans x23
  replace x24 : M.2.2 25 24 = .int 0 := (hd.2.2.2 25 24 (by decide)).trans x24
  replace x32 : M.2.2 25 32 = .int 0 := (hd.2.2.2 25 32 (by decide)).trans x32
  replace k26 : M.2.1 26 = (20, 12) := (congrFun hd.2.1 26).trans k26
  replace z26 : M.2.2 26 = fun _ => .int 0 := (hd.toWd.2.2 26 (by decide)).trans z26
  replace x2 : M.2.2 25 2 = .ref 26 := (hd.2.2.2 25 2 (by decide)).trans x2
  replace k27 : M.2.1 27 = (20, 12) := (congrFun hd.2.1 27).trans k27
  replace z27 : M.2.2 27 = fun _ => .int 0 := (hd.toWd.2.2 27 (by decide)).trans z27
  replace x3 : M.2.2 25 3 = .ref 27 := (hd.2.2.2 25 3 (by decide)).trans x3
  replace k28 : M.2.1 28 = (20, 192) := (congrFun hd.2.1 28).trans k28
  replace z28 : M.2.2 28 = fun _ => .int 0 := (hd.toWd.2.2 28 (by decide)).trans z28
  replace x4 : M.2.2 25 4 = .ref 28 := (hd.2.2.2 25 4 (by decide)).trans x4
  replace k29 : M.2.1 29 = (20, 32) := (congrFun hd.2.1 29).trans k29
  replace z29 : M.2.2 29 = fun _ => .int 0 := (hd.toWd.2.2 29 (by decide)).trans z29
  replace x5 : M.2.2 25 5 = .ref 29 := (hd.2.2.2 25 5 (by decide)).trans x5
  replace k30 : M.2.1 30 = (20, 25) := (congrFun hd.2.1 30).trans k30
  replace z30 : M.2.2 30 = fun _ => .int 0 := (hd.toWd.2.2 30 (by decide)).trans z30
  replace x7 : M.2.2 25 7 = .ref 30 := (hd.2.2.2 25 7 (by decide)).trans x7
  replace k31 : M.2.1 31 = (20, 16) := (congrFun hd.2.1 31).trans k31
  replace z31 : M.2.2 31 = fun _ => .int 0 := (hd.toWd.2.2 31 (by decide)).trans z31
  replace x11 : M.2.2 25 11 = .ref 31 := (hd.2.2.2 25 11 (by decide)).trans x11
  replace k32 : M.2.1 32 = (20, 16) := (congrFun hd.2.1 32).trans k32
  replace z32 : M.2.2 32 = fun _ => .int 0 := (hd.toWd.2.2 32 (by decide)).trans z32
  replace x12 : M.2.2 25 12 = .ref 32 := (hd.2.2.2 25 12 (by decide)).trans x12
  replace k33 : M.2.1 33 = (20, 6) := (congrFun hd.2.1 33).trans k33
  replace z33 : M.2.2 33 = fun _ => .int 0 := (hd.toWd.2.2 33 (by decide)).trans z33
  replace x14 : M.2.2 25 14 = .ref 33 := (hd.2.2.2 25 14 (by decide)).trans x14
  replace k34 : M.2.1 34 = (20, 6) := (congrFun hd.2.1 34).trans k34
  replace z34 : M.2.2 34 = fun _ => .int 0 := (hd.toWd.2.2 34 (by decide)).trans z34
  replace x15 : M.2.2 25 15 = .ref 34 := (hd.2.2.2 25 15 (by decide)).trans x15
  replace k35 : M.2.1 35 = (20, 12) := (congrFun hd.2.1 35).trans k35
  replace z35 : M.2.2 35 = fun _ => .int 0 := (hd.toWd.2.2 35 (by decide)).trans z35
  replace x16 : M.2.2 25 16 = .ref 35 := (hd.2.2.2 25 16 (by decide)).trans x16
  replace k36 : M.2.1 36 = (20, 12) := (congrFun hd.2.1 36).trans k36
  replace z36 : M.2.2 36 = fun _ => .int 0 := (hd.toWd.2.2 36 (by decide)).trans z36
  replace x17 : M.2.2 25 17 = .ref 36 := (hd.2.2.2 25 17 (by decide)).trans x17
  replace k37 : M.2.1 37 = (20, 12) := (congrFun hd.2.1 37).trans k37
  replace z37 : M.2.2 37 = fun _ => .int 0 := (hd.toWd.2.2 37 (by decide)).trans z37
  replace x18 : M.2.2 25 18 = .ref 37 := (hd.2.2.2 25 18 (by decide)).trans x18
  replace k38 : M.2.1 38 = (20, 12) := (congrFun hd.2.1 38).trans k38
  replace z38 : M.2.2 38 = fun _ => .int 0 := (hd.toWd.2.2 38 (by decide)).trans z38
  replace x19 : M.2.2 25 19 = .ref 38 := (hd.2.2.2 25 19 (by decide)).trans x19
  replace k39 : M.2.1 39 = (20, 12) := (congrFun hd.2.1 39).trans k39
  replace z39 : M.2.2 39 = fun _ => .int 0 := (hd.toWd.2.2 39 (by decide)).trans z39
  replace x20 : M.2.2 25 20 = .ref 39 := (hd.2.2.2 25 20 (by decide)).trans x20
  replace k40 : M.2.1 40 = (20, 12) := (congrFun hd.2.1 40).trans k40
  replace z40 : M.2.2 40 = fun _ => .int 0 := (hd.toWd.2.2 40 (by decide)).trans z40
  replace x21 : M.2.2 25 21 = .ref 40 := (hd.2.2.2 25 21 (by decide)).trans x21
  replace k41 : M.2.1 41 = (20, 300) := (congrFun hd.2.1 41).trans k41
  replace z41 : M.2.2 41 = fun _ => .int 0 := (hd.toWd.2.2 41 (by decide)).trans z41
  replace x22 : M.2.2 25 22 = .ref 41 := (hd.2.2.2 25 22 (by decide)).trans x22
  replace k42 : M.2.1 42 = (20, 9) := (congrFun hd.2.1 42).trans k42
  replace z42 : M.2.2 42 = fun _ => .int 0 := (hd.toWd.2.2 42 (by decide)).trans z42
  replace x25 : M.2.2 25 25 = .ref 42 := (hd.2.2.2 25 25 (by decide)).trans x25
  replace k43 : M.2.1 43 = (20, 9) := (congrFun hd.2.1 43).trans k43
  replace z43 : M.2.2 43 = fun _ => .int 0 := (hd.toWd.2.2 43 (by decide)).trans z43
  replace x26 : M.2.2 25 26 = .ref 43 := (hd.2.2.2 25 26 (by decide)).trans x26
  replace k44 : M.2.1 44 = (20, 9) := (congrFun hd.2.1 44).trans k44
  replace z44 : M.2.2 44 = fun _ => .int 0 := (hd.toWd.2.2 44 (by decide)).trans z44
  replace hF := hF.wd hd.toWd (by decide)
  replace hM := hd.1.trans hM
  have x27 : M.2.2 25 27 = .ref 44 := hd.2.2.1
  clear hd
  refine aw_aload0 158 dX12_init_158 ?_
  refine aw_ic4 159 dX12_init_159 ?_
  refine na_new 160 (4) (45) dX12_init_160 rfl (by decide) hM (by decide) (by decide) (fun M hd => ?_)
  replace kX : M.2.1 25 = (12, 33) := ((hd.2.2.2 25 (by decide)).1).trans kX
  replace x0 : M.2.2 25 0 = .int 0 := (congrFun (hd.2.2.2 25 (by decide)).2 0).trans x0
  replace x1 : M.2.2 25 1 = .int 0 := (congrFun (hd.2.2.2 25 (by decide)).2 1).trans x1
  replace x6 : M.2.2 25 6 = .int 0 := (congrFun (hd.2.2.2 25 (by decide)).2 6).trans x6
  replace x8 : M.2.2 25 8 = .int 0 := (congrFun (hd.2.2.2 25 (by decide)).2 8).trans x8
  replace x9 : M.2.2 25 9 = .int 0 := (congrFun (hd.2.2.2 25 (by decide)).2 9).trans x9
  replace x10 : M.2.2 25 10 = .int 0 := (congrFun (hd.2.2.2 25 (by decide)).2 10).trans x10
  replace x13 : M.2.2 25 13 = .int 0 := (congrFun (hd.2.2.2 25 (by decide)).2 13).trans x13
  replace x23 : M.2.2 25 23 = .int 0 := (congrFun (hd.2.2.2 25 (by decide)).2 23).trans x23
  replace x24 : M.2.2 25 24 = .int 0 := (congrFun (hd.2.2.2 25 (by decide)).2 24).trans x24
  replace x32 : M.2.2 25 32 = .int 0 := (congrFun (hd.2.2.2 25 (by decide)).2 32).trans x32
  replace k26 : M.2.1 26 = (20, 12) := ((hd.2.2.2 26 (by decide)).1).trans k26
  replace z26 : M.2.2 26 = fun _ => .int 0 := ((hd.2.2.2 26 (by decide)).2).trans z26
  replace x2 : M.2.2 25 2 = .ref 26 := (congrFun (hd.2.2.2 25 (by decide)).2 2).trans x2
  replace k27 : M.2.1 27 = (20, 12) := ((hd.2.2.2 27 (by decide)).1).trans k27
  replace z27 : M.2.2 27 = fun _ => .int 0 := ((hd.2.2.2 27 (by decide)).2).trans z27
  replace x3 : M.2.2 25 3 = .ref 27 := (congrFun (hd.2.2.2 25 (by decide)).2 3).trans x3
  replace k28 : M.2.1 28 = (20, 192) := ((hd.2.2.2 28 (by decide)).1).trans k28
  replace z28 : M.2.2 28 = fun _ => .int 0 := ((hd.2.2.2 28 (by decide)).2).trans z28
  replace x4 : M.2.2 25 4 = .ref 28 := (congrFun (hd.2.2.2 25 (by decide)).2 4).trans x4
  replace k29 : M.2.1 29 = (20, 32) := ((hd.2.2.2 29 (by decide)).1).trans k29
  replace z29 : M.2.2 29 = fun _ => .int 0 := ((hd.2.2.2 29 (by decide)).2).trans z29
  replace x5 : M.2.2 25 5 = .ref 29 := (congrFun (hd.2.2.2 25 (by decide)).2 5).trans x5
  replace k30 : M.2.1 30 = (20, 25) := ((hd.2.2.2 30 (by decide)).1).trans k30
  replace z30 : M.2.2 30 = fun _ => .int 0 := ((hd.2.2.2 30 (by decide)).2).trans z30
  replace x7 : M.2.2 25 7 = .ref 30 := (congrFun (hd.2.2.2 25 (by decide)).2 7).trans x7
  replace k31 : M.2.1 31 = (20, 16) := ((hd.2.2.2 31 (by decide)).1).trans k31
  replace z31 : M.2.2 31 = fun _ => .int 0 := ((hd.2.2.2 31 (by decide)).2).trans z31
  replace x11 : M.2.2 25 11 = .ref 31 := (congrFun (hd.2.2.2 25 (by decide)).2 11).trans x11
  replace k32 : M.2.1 32 = (20, 16) := ((hd.2.2.2 32 (by decide)).1).trans k32
  replace z32 : M.2.2 32 = fun _ => .int 0 := ((hd.2.2.2 32 (by decide)).2).trans z32
  replace x12 : M.2.2 25 12 = .ref 32 := (congrFun (hd.2.2.2 25 (by decide)).2 12).trans x12
  replace k33 : M.2.1 33 = (20, 6) := ((hd.2.2.2 33 (by decide)).1).trans k33
  replace z33 : M.2.2 33 = fun _ => .int 0 := ((hd.2.2.2 33 (by decide)).2).trans z33
  replace x14 : M.2.2 25 14 = .ref 33 := (congrFun (hd.2.2.2 25 (by decide)).2 14).trans x14
  replace k34 : M.2.1 34 = (20, 6) := ((hd.2.2.2 34 (by decide)).1).trans k34
  replace z34 : M.2.2 34 = fun _ => .int 0 := ((hd.2.2.2 34 (by decide)).2).trans z34
  replace x15 : M.2.2 25 15 = .ref 34 := (congrFun (hd.2.2.2 25 (by decide)).2 15).trans x15
  replace k35 : M.2.1 35 = (20, 12) := ((hd.2.2.2 35 (by decide)).1).trans k35
  replace z35 : M.2.2 35 = fun _ => .int 0 := ((hd.2.2.2 35 (by decide)).2).trans z35
  replace x16 : M.2.2 25 16 = .ref 35 := (congrFun (hd.2.2.2 25 (by decide)).2 16).trans x16
  replace k36 : M.2.1 36 = (20, 12) := ((hd.2.2.2 36 (by decide)).1).trans k36
  replace z36 : M.2.2 36 = fun _ => .int 0 := ((hd.2.2.2 36 (by decide)).2).trans z36
  replace x17 : M.2.2 25 17 = .ref 36 := (congrFun (hd.2.2.2 25 (by decide)).2 17).trans x17
  replace k37 : M.2.1 37 = (20, 12) := ((hd.2.2.2 37 (by decide)).1).trans k37
  replace z37 : M.2.2 37 = fun _ => .int 0 := ((hd.2.2.2 37 (by decide)).2).trans z37
  replace x18 : M.2.2 25 18 = .ref 37 := (congrFun (hd.2.2.2 25 (by decide)).2 18).trans x18
  replace k38 : M.2.1 38 = (20, 12) := ((hd.2.2.2 38 (by decide)).1).trans k38
  replace z38 : M.2.2 38 = fun _ => .int 0 := ((hd.2.2.2 38 (by decide)).2).trans z38
  replace x19 : M.2.2 25 19 = .ref 38 := (congrFun (hd.2.2.2 25 (by decide)).2 19).trans x19
  replace k39 : M.2.1 39 = (20, 12) := ((hd.2.2.2 39 (by decide)).1).trans k39
  replace z39 : M.2.2 39 = fun _ => .int 0 := ((hd.2.2.2 39 (by decide)).2).trans z39
  replace x20 : M.2.2 25 20 = .ref 39 := (congrFun (hd.2.2.2 25 (by decide)).2 20).trans x20
  replace k40 : M.2.1 40 = (20, 12) := ((hd.2.2.2 40 (by decide)).1).trans k40
  replace z40 : M.2.2 40 = fun _ => .int 0 := ((hd.2.2.2 40 (by decide)).2).trans z40
  replace x21 : M.2.2 25 21 = .ref 40 := (congrFun (hd.2.2.2 25 (by decide)).2 21).trans x21
  replace k41 : M.2.1 41 = (20, 300) := ((hd.2.2.2 41 (by decide)).1).trans k41
  replace z41 : M.2.2 41 = fun _ => .int 0 := ((hd.2.2.2 41 (by decide)).2).trans z41
  replace x22 : M.2.2 25 22 = .ref 41 := (congrFun (hd.2.2.2 25 (by decide)).2 22).trans x22
  replace k42 : M.2.1 42 = (20, 9) := ((hd.2.2.2 42 (by decide)).1).trans k42
  replace z42 : M.2.2 42 = fun _ => .int 0 := ((hd.2.2.2 42 (by decide)).2).trans z42
  replace x25 : M.2.2 25 25 = .ref 42 := (congrFun (hd.2.2.2 25 (by decide)).2 25).trans x25
  replace k43 : M.2.1 43 = (20, 9) := ((hd.2.2.2 43 (by decide)).1).trans k43
  replace z43 : M.2.2 43 = fun _ => .int 0 := ((hd.2.2.2 43 (by decide)).2).trans z43
  replace x26 : M.2.2 25 26 = .ref 43 := (congrFun (hd.2.2.2 25 (by decide)).2 26).trans x26
  replace k44 : M.2.1 44 = (20, 9) := ((hd.2.2.2 44 (by decide)).1).trans k44
  replace z44 : M.2.2 44 = fun _ => .int 0 := ((hd.2.2.2 44 (by decide)).2).trans z44
  replace x27 : M.2.2 25 27 = .ref 44 := (congrFun (hd.2.2.2 25 (by decide)).2 27).trans x27
  replace hF := hF.nw hd (by decide)
  have k45 : M.2.1 45 = (20, 4) := hd.2.1
  have z45 : M.2.2 45 = fun _ => .int 0 := hd.2.2.1
  replace hM : M.1 = 46 := hd.1
  clear hd
  refine fp_putF 162 dX12_init_162 ckF_RX12_67_12 ckQ_RX12_12_28 rfl kX rfl rfl (fun M hd => ?_)
  replace kX : M.2.1 25 = (12, 33) := (congrFun hd.2.1 25).trans kX
  replace x0 : M.2.2 25 0 = .int 0 := (hd.2.2.2 25 0 (by decide)).trans x0
  replace x1 : M.2.2 25 1 = .int 0 := (hd.2.2.2 25 1 (by decide)).trans x1
  replace x6 : M.2.2 25 6 = .int 0 := (hd.2.2.2 25 6 (by decide)).trans x6
  replace x8 : M.2.2 25 8 = .int 0 := (hd.2.2.2 25 8 (by decide)).trans x8
  replace x9 : M.2.2 25 9 = .int 0 := (hd.2.2.2 25 9 (by decide)).trans x9
  replace x10 : M.2.2 25 10 = .int 0 := (hd.2.2.2 25 10 (by decide)).trans x10
  replace x13 : M.2.2 25 13 = .int 0 := (hd.2.2.2 25 13 (by decide)).trans x13
  replace x23 : M.2.2 25 23 = .int 0 := (hd.2.2.2 25 23 (by decide)).trans x23
  replace x24 : M.2.2 25 24 = .int 0 := (hd.2.2.2 25 24 (by decide)).trans x24
  replace x32 : M.2.2 25 32 = .int 0 := (hd.2.2.2 25 32 (by decide)).trans x32
  replace k26 : M.2.1 26 = (20, 12) := (congrFun hd.2.1 26).trans k26
  replace z26 : M.2.2 26 = fun _ => .int 0 := (hd.toWd.2.2 26 (by decide)).trans z26
  replace x2 : M.2.2 25 2 = .ref 26 := (hd.2.2.2 25 2 (by decide)).trans x2
  replace k27 : M.2.1 27 = (20, 12) := (congrFun hd.2.1 27).trans k27
  replace z27 : M.2.2 27 = fun _ => .int 0 := (hd.toWd.2.2 27 (by decide)).trans z27
  replace x3 : M.2.2 25 3 = .ref 27 := (hd.2.2.2 25 3 (by decide)).trans x3
  replace k28 : M.2.1 28 = (20, 192) := (congrFun hd.2.1 28).trans k28
  replace z28 : M.2.2 28 = fun _ => .int 0 := (hd.toWd.2.2 28 (by decide)).trans z28
  replace x4 : M.2.2 25 4 = .ref 28 := (hd.2.2.2 25 4 (by decide)).trans x4
  replace k29 : M.2.1 29 = (20, 32) := (congrFun hd.2.1 29).trans k29
  replace z29 : M.2.2 29 = fun _ => .int 0 := (hd.toWd.2.2 29 (by decide)).trans z29
  replace x5 : M.2.2 25 5 = .ref 29 := (hd.2.2.2 25 5 (by decide)).trans x5
  replace k30 : M.2.1 30 = (20, 25) := (congrFun hd.2.1 30).trans k30
  replace z30 : M.2.2 30 = fun _ => .int 0 := (hd.toWd.2.2 30 (by decide)).trans z30
  replace x7 : M.2.2 25 7 = .ref 30 := (hd.2.2.2 25 7 (by decide)).trans x7
  replace k31 : M.2.1 31 = (20, 16) := (congrFun hd.2.1 31).trans k31
  replace z31 : M.2.2 31 = fun _ => .int 0 := (hd.toWd.2.2 31 (by decide)).trans z31
  replace x11 : M.2.2 25 11 = .ref 31 := (hd.2.2.2 25 11 (by decide)).trans x11
  replace k32 : M.2.1 32 = (20, 16) := (congrFun hd.2.1 32).trans k32
  replace z32 : M.2.2 32 = fun _ => .int 0 := (hd.toWd.2.2 32 (by decide)).trans z32
  replace x12 : M.2.2 25 12 = .ref 32 := (hd.2.2.2 25 12 (by decide)).trans x12
  replace k33 : M.2.1 33 = (20, 6) := (congrFun hd.2.1 33).trans k33
  replace z33 : M.2.2 33 = fun _ => .int 0 := (hd.toWd.2.2 33 (by decide)).trans z33
  replace x14 : M.2.2 25 14 = .ref 33 := (hd.2.2.2 25 14 (by decide)).trans x14
  replace k34 : M.2.1 34 = (20, 6) := (congrFun hd.2.1 34).trans k34
  replace z34 : M.2.2 34 = fun _ => .int 0 := (hd.toWd.2.2 34 (by decide)).trans z34
  replace x15 : M.2.2 25 15 = .ref 34 := (hd.2.2.2 25 15 (by decide)).trans x15
  replace k35 : M.2.1 35 = (20, 12) := (congrFun hd.2.1 35).trans k35
  replace z35 : M.2.2 35 = fun _ => .int 0 := (hd.toWd.2.2 35 (by decide)).trans z35
  replace x16 : M.2.2 25 16 = .ref 35 := (hd.2.2.2 25 16 (by decide)).trans x16
  replace k36 : M.2.1 36 = (20, 12) := (congrFun hd.2.1 36).trans k36
  replace z36 : M.2.2 36 = fun _ => .int 0 := (hd.toWd.2.2 36 (by decide)).trans z36
  replace x17 : M.2.2 25 17 = .ref 36 := (hd.2.2.2 25 17 (by decide)).trans x17
  replace k37 : M.2.1 37 = (20, 12) := (congrFun hd.2.1 37).trans k37
  replace z37 : M.2.2 37 = fun _ => .int 0 := (hd.toWd.2.2 37 (by decide)).trans z37
  replace x18 : M.2.2 25 18 = .ref 37 := (hd.2.2.2 25 18 (by decide)).trans x18
  replace k38 : M.2.1 38 = (20, 12) := (congrFun hd.2.1 38).trans k38
  replace z38 : M.2.2 38 = fun _ => .int 0 := (hd.toWd.2.2 38 (by decide)).trans z38
  replace x19 : M.2.2 25 19 = .ref 38 := (hd.2.2.2 25 19 (by decide)).trans x19
  replace k39 : M.2.1 39 = (20, 12) := (congrFun hd.2.1 39).trans k39
  replace z39 : M.2.2 39 = fun _ => .int 0 := (hd.toWd.2.2 39 (by decide)).trans z39
  replace x20 : M.2.2 25 20 = .ref 39 := (hd.2.2.2 25 20 (by decide)).trans x20
  replace k40 : M.2.1 40 = (20, 12) := (congrFun hd.2.1 40).trans k40
  replace z40 : M.2.2 40 = fun _ => .int 0 := (hd.toWd.2.2 40 (by decide)).trans z40
  replace x21 : M.2.2 25 21 = .ref 40 := (hd.2.2.2 25 21 (by decide)).trans x21
  replace k41 : M.2.1 41 = (20, 300) := (congrFun hd.2.1 41).trans k41
  replace z41 : M.2.2 41 = fun _ => .int 0 := (hd.toWd.2.2 41 (by decide)).trans z41
  replace x22 : M.2.2 25 22 = .ref 41 := (hd.2.2.2 25 22 (by decide)).trans x22
  replace k42 : M.2.1 42 = (20, 9) := (congrFun hd.2.1 42).trans k42
  replace z42 : M.2.2 42 = fun _ => .int 0 := (hd.toWd.2.2 42 (by decide)).trans z42
  replace x25 : M.2.2 25 25 = .ref 42 := (hd.2.2.2 25 25 (by decide)).trans x25
  replace k43 : M.2.1 43 = (20, 9) := (congrFun hd.2.1 43).trans k43
  replace z43 : M.2.2 43 = fun _ => .int 0 := (hd.toWd.2.2 43 (by decide)).trans z43
  replace x26 : M.2.2 25 26 = .ref 43 := (hd.2.2.2 25 26 (by decide)).trans x26
  replace k44 : M.2.1 44 = (20, 9) := (congrFun hd.2.1 44).trans k44
  replace z44 : M.2.2 44 = fun _ => .int 0 := (hd.toWd.2.2 44 (by decide)).trans z44
  replace x27 : M.2.2 25 27 = .ref 44 := (hd.2.2.2 25 27 (by decide)).trans x27
  replace k45 : M.2.1 45 = (20, 4) := (congrFun hd.2.1 45).trans k45
  replace z45 : M.2.2 45 = fun _ => .int 0 := (hd.toWd.2.2 45 (by decide)).trans z45
  replace hF := hF.wd hd.toWd (by decide)
  replace hM := hd.1.trans hM
  have x28 : M.2.2 25 28 = .ref 45 := hd.2.2.1
  clear hd
  refine aw_aload0 165 dX12_init_165 ?_
  refine aw_ic4 166 dX12_init_166 ?_
  refine na_new 167 (4) (46) dX12_init_167 rfl (by decide) hM (by decide) (by decide) (fun M hd => ?_)
  replace kX : M.2.1 25 = (12, 33) := ((hd.2.2.2 25 (by decide)).1).trans kX
  replace x0 : M.2.2 25 0 = .int 0 := (congrFun (hd.2.2.2 25 (by decide)).2 0).trans x0
  replace x1 : M.2.2 25 1 = .int 0 := (congrFun (hd.2.2.2 25 (by decide)).2 1).trans x1
  replace x6 : M.2.2 25 6 = .int 0 := (congrFun (hd.2.2.2 25 (by decide)).2 6).trans x6
  replace x8 : M.2.2 25 8 = .int 0 := (congrFun (hd.2.2.2 25 (by decide)).2 8).trans x8
  replace x9 : M.2.2 25 9 = .int 0 := (congrFun (hd.2.2.2 25 (by decide)).2 9).trans x9
  replace x10 : M.2.2 25 10 = .int 0 := (congrFun (hd.2.2.2 25 (by decide)).2 10).trans x10
  replace x13 : M.2.2 25 13 = .int 0 := (congrFun (hd.2.2.2 25 (by decide)).2 13).trans x13
  replace x23 : M.2.2 25 23 = .int 0 := (congrFun (hd.2.2.2 25 (by decide)).2 23).trans x23
  replace x24 : M.2.2 25 24 = .int 0 := (congrFun (hd.2.2.2 25 (by decide)).2 24).trans x24
  replace x32 : M.2.2 25 32 = .int 0 := (congrFun (hd.2.2.2 25 (by decide)).2 32).trans x32
  replace k26 : M.2.1 26 = (20, 12) := ((hd.2.2.2 26 (by decide)).1).trans k26
  replace z26 : M.2.2 26 = fun _ => .int 0 := ((hd.2.2.2 26 (by decide)).2).trans z26
  replace x2 : M.2.2 25 2 = .ref 26 := (congrFun (hd.2.2.2 25 (by decide)).2 2).trans x2
  replace k27 : M.2.1 27 = (20, 12) := ((hd.2.2.2 27 (by decide)).1).trans k27
  replace z27 : M.2.2 27 = fun _ => .int 0 := ((hd.2.2.2 27 (by decide)).2).trans z27
  replace x3 : M.2.2 25 3 = .ref 27 := (congrFun (hd.2.2.2 25 (by decide)).2 3).trans x3
  replace k28 : M.2.1 28 = (20, 192) := ((hd.2.2.2 28 (by decide)).1).trans k28
  replace z28 : M.2.2 28 = fun _ => .int 0 := ((hd.2.2.2 28 (by decide)).2).trans z28
  replace x4 : M.2.2 25 4 = .ref 28 := (congrFun (hd.2.2.2 25 (by decide)).2 4).trans x4
  replace k29 : M.2.1 29 = (20, 32) := ((hd.2.2.2 29 (by decide)).1).trans k29
  replace z29 : M.2.2 29 = fun _ => .int 0 := ((hd.2.2.2 29 (by decide)).2).trans z29
  replace x5 : M.2.2 25 5 = .ref 29 := (congrFun (hd.2.2.2 25 (by decide)).2 5).trans x5
  replace k30 : M.2.1 30 = (20, 25) := ((hd.2.2.2 30 (by decide)).1).trans k30
  replace z30 : M.2.2 30 = fun _ => .int 0 := ((hd.2.2.2 30 (by decide)).2).trans z30
  replace x7 : M.2.2 25 7 = .ref 30 := (congrFun (hd.2.2.2 25 (by decide)).2 7).trans x7
  replace k31 : M.2.1 31 = (20, 16) := ((hd.2.2.2 31 (by decide)).1).trans k31
  replace z31 : M.2.2 31 = fun _ => .int 0 := ((hd.2.2.2 31 (by decide)).2).trans z31
  replace x11 : M.2.2 25 11 = .ref 31 := (congrFun (hd.2.2.2 25 (by decide)).2 11).trans x11
  replace k32 : M.2.1 32 = (20, 16) := ((hd.2.2.2 32 (by decide)).1).trans k32
  replace z32 : M.2.2 32 = fun _ => .int 0 := ((hd.2.2.2 32 (by decide)).2).trans z32
  replace x12 : M.2.2 25 12 = .ref 32 := (congrFun (hd.2.2.2 25 (by decide)).2 12).trans x12
  replace k33 : M.2.1 33 = (20, 6) := ((hd.2.2.2 33 (by decide)).1).trans k33
  replace z33 : M.2.2 33 = fun _ => .int 0 := ((hd.2.2.2 33 (by decide)).2).trans z33
  replace x14 : M.2.2 25 14 = .ref 33 := (congrFun (hd.2.2.2 25 (by decide)).2 14).trans x14
  replace k34 : M.2.1 34 = (20, 6) := ((hd.2.2.2 34 (by decide)).1).trans k34
  replace z34 : M.2.2 34 = fun _ => .int 0 := ((hd.2.2.2 34 (by decide)).2).trans z34
  replace x15 : M.2.2 25 15 = .ref 34 := (congrFun (hd.2.2.2 25 (by decide)).2 15).trans x15
  replace k35 : M.2.1 35 = (20, 12) := ((hd.2.2.2 35 (by decide)).1).trans k35
  replace z35 : M.2.2 35 = fun _ => .int 0 := ((hd.2.2.2 35 (by decide)).2).trans z35
  replace x16 : M.2.2 25 16 = .ref 35 := (congrFun (hd.2.2.2 25 (by decide)).2 16).trans x16
  replace k36 : M.2.1 36 = (20, 12) := ((hd.2.2.2 36 (by decide)).1).trans k36
  replace z36 : M.2.2 36 = fun _ => .int 0 := ((hd.2.2.2 36 (by decide)).2).trans z36
  replace x17 : M.2.2 25 17 = .ref 36 := (congrFun (hd.2.2.2 25 (by decide)).2 17).trans x17
  replace k37 : M.2.1 37 = (20, 12) := ((hd.2.2.2 37 (by decide)).1).trans k37
  replace z37 : M.2.2 37 = fun _ => .int 0 := ((hd.2.2.2 37 (by decide)).2).trans z37
  replace x18 : M.2.2 25 18 = .ref 37 := (congrFun (hd.2.2.2 25 (by decide)).2 18).trans x18
  replace k38 : M.2.1 38 = (20, 12) := ((hd.2.2.2 38 (by decide)).1).trans k38
  replace z38 : M.2.2 38 = fun _ => .int 0 := ((hd.2.2.2 38 (by decide)).2).trans z38
  replace x19 : M.2.2 25 19 = .ref 38 := (congrFun (hd.2.2.2 25 (by decide)).2 19).trans x19
  replace k39 : M.2.1 39 = (20, 12) := ((hd.2.2.2 39 (by decide)).1).trans k39
  replace z39 : M.2.2 39 = fun _ => .int 0 := ((hd.2.2.2 39 (by decide)).2).trans z39
  replace x20 : M.2.2 25 20 = .ref 39 := (congrFun (hd.2.2.2 25 (by decide)).2 20).trans x20
  replace k40 : M.2.1 40 = (20, 12) := ((hd.2.2.2 40 (by decide)).1).trans k40
  replace z40 : M.2.2 40 = fun _ => .int 0 := ((hd.2.2.2 40 (by decide)).2).trans z40
  replace x21 : M.2.2 25 21 = .ref 40 := (congrFun (hd.2.2.2 25 (by decide)).2 21).trans x21
  replace k41 : M.2.1 41 = (20, 300) := ((hd.2.2.2 41 (by decide)).1).trans k41
  replace z41 : M.2.2 41 = fun _ => .int 0 := ((hd.2.2.2 41 (by decide)).2).trans z41
  replace x22 : M.2.2 25 22 = .ref 41 := (congrFun (hd.2.2.2 25 (by decide)).2 22).trans x22
  replace k42 : M.2.1 42 = (20, 9) := ((hd.2.2.2 42 (by decide)).1).trans k42
  replace z42 : M.2.2 42 = fun _ => .int 0 := ((hd.2.2.2 42 (by decide)).2).trans z42
  replace x25 : M.2.2 25 25 = .ref 42 := (congrFun (hd.2.2.2 25 (by decide)).2 25).trans x25
  replace k43 : M.2.1 43 = (20, 9) := ((hd.2.2.2 43 (by decide)).1).trans k43
  replace z43 : M.2.2 43 = fun _ => .int 0 := ((hd.2.2.2 43 (by decide)).2).trans z43
  replace x26 : M.2.2 25 26 = .ref 43 := (congrFun (hd.2.2.2 25 (by decide)).2 26).trans x26
  replace k44 : M.2.1 44 = (20, 9) := ((hd.2.2.2 44 (by decide)).1).trans k44
  replace z44 : M.2.2 44 = fun _ => .int 0 := ((hd.2.2.2 44 (by decide)).2).trans z44
  replace x27 : M.2.2 25 27 = .ref 44 := (congrFun (hd.2.2.2 25 (by decide)).2 27).trans x27
  replace k45 : M.2.1 45 = (20, 4) := ((hd.2.2.2 45 (by decide)).1).trans k45
  replace z45 : M.2.2 45 = fun _ => .int 0 := ((hd.2.2.2 45 (by decide)).2).trans z45
  replace x28 : M.2.2 25 28 = .ref 45 := (congrFun (hd.2.2.2 25 (by decide)).2 28).trans x28
  replace hF := hF.nw hd (by decide)
  have k46 : M.2.1 46 = (20, 4) := hd.2.1
  have z46 : M.2.2 46 = fun _ => .int 0 := hd.2.2.1
  replace hM : M.1 = 47 := hd.1
  clear hd
  refine fp_putF 169 dX12_init_169 ckF_RX12_70_12 ckQ_RX12_12_29 rfl kX rfl rfl (fun M hd => ?_)
  replace kX : M.2.1 25 = (12, 33) := (congrFun hd.2.1 25).trans kX
  replace x0 : M.2.2 25 0 = .int 0 := (hd.2.2.2 25 0 (by decide)).trans x0
  replace x1 : M.2.2 25 1 = .int 0 := (hd.2.2.2 25 1 (by decide)).trans x1
  replace x6 : M.2.2 25 6 = .int 0 := (hd.2.2.2 25 6 (by decide)).trans x6
  replace x8 : M.2.2 25 8 = .int 0 := (hd.2.2.2 25 8 (by decide)).trans x8
  replace x9 : M.2.2 25 9 = .int 0 := (hd.2.2.2 25 9 (by decide)).trans x9
  replace x10 : M.2.2 25 10 = .int 0 := (hd.2.2.2 25 10 (by decide)).trans x10
  replace x13 : M.2.2 25 13 = .int 0 := (hd.2.2.2 25 13 (by decide)).trans x13
  replace x23 : M.2.2 25 23 = .int 0 := (hd.2.2.2 25 23 (by decide)).trans x23
  replace x24 : M.2.2 25 24 = .int 0 := (hd.2.2.2 25 24 (by decide)).trans x24
  replace x32 : M.2.2 25 32 = .int 0 := (hd.2.2.2 25 32 (by decide)).trans x32
  replace k26 : M.2.1 26 = (20, 12) := (congrFun hd.2.1 26).trans k26
  replace z26 : M.2.2 26 = fun _ => .int 0 := (hd.toWd.2.2 26 (by decide)).trans z26
  replace x2 : M.2.2 25 2 = .ref 26 := (hd.2.2.2 25 2 (by decide)).trans x2
  replace k27 : M.2.1 27 = (20, 12) := (congrFun hd.2.1 27).trans k27
  replace z27 : M.2.2 27 = fun _ => .int 0 := (hd.toWd.2.2 27 (by decide)).trans z27
  replace x3 : M.2.2 25 3 = .ref 27 := (hd.2.2.2 25 3 (by decide)).trans x3
  replace k28 : M.2.1 28 = (20, 192) := (congrFun hd.2.1 28).trans k28
  replace z28 : M.2.2 28 = fun _ => .int 0 := (hd.toWd.2.2 28 (by decide)).trans z28
  replace x4 : M.2.2 25 4 = .ref 28 := (hd.2.2.2 25 4 (by decide)).trans x4
  replace k29 : M.2.1 29 = (20, 32) := (congrFun hd.2.1 29).trans k29
  replace z29 : M.2.2 29 = fun _ => .int 0 := (hd.toWd.2.2 29 (by decide)).trans z29
  replace x5 : M.2.2 25 5 = .ref 29 := (hd.2.2.2 25 5 (by decide)).trans x5
  replace k30 : M.2.1 30 = (20, 25) := (congrFun hd.2.1 30).trans k30
  replace z30 : M.2.2 30 = fun _ => .int 0 := (hd.toWd.2.2 30 (by decide)).trans z30
  replace x7 : M.2.2 25 7 = .ref 30 := (hd.2.2.2 25 7 (by decide)).trans x7
  replace k31 : M.2.1 31 = (20, 16) := (congrFun hd.2.1 31).trans k31
  replace z31 : M.2.2 31 = fun _ => .int 0 := (hd.toWd.2.2 31 (by decide)).trans z31
  replace x11 : M.2.2 25 11 = .ref 31 := (hd.2.2.2 25 11 (by decide)).trans x11
  replace k32 : M.2.1 32 = (20, 16) := (congrFun hd.2.1 32).trans k32
  replace z32 : M.2.2 32 = fun _ => .int 0 := (hd.toWd.2.2 32 (by decide)).trans z32
  replace x12 : M.2.2 25 12 = .ref 32 := (hd.2.2.2 25 12 (by decide)).trans x12
  replace k33 : M.2.1 33 = (20, 6) := (congrFun hd.2.1 33).trans k33
  replace z33 : M.2.2 33 = fun _ => .int 0 := (hd.toWd.2.2 33 (by decide)).trans z33
  replace x14 : M.2.2 25 14 = .ref 33 := (hd.2.2.2 25 14 (by decide)).trans x14
  replace k34 : M.2.1 34 = (20, 6) := (congrFun hd.2.1 34).trans k34
  replace z34 : M.2.2 34 = fun _ => .int 0 := (hd.toWd.2.2 34 (by decide)).trans z34
  replace x15 : M.2.2 25 15 = .ref 34 := (hd.2.2.2 25 15 (by decide)).trans x15
  replace k35 : M.2.1 35 = (20, 12) := (congrFun hd.2.1 35).trans k35
  replace z35 : M.2.2 35 = fun _ => .int 0 := (hd.toWd.2.2 35 (by decide)).trans z35
  replace x16 : M.2.2 25 16 = .ref 35 := (hd.2.2.2 25 16 (by decide)).trans x16
  replace k36 : M.2.1 36 = (20, 12) := (congrFun hd.2.1 36).trans k36
  replace z36 : M.2.2 36 = fun _ => .int 0 := (hd.toWd.2.2 36 (by decide)).trans z36
  replace x17 : M.2.2 25 17 = .ref 36 := (hd.2.2.2 25 17 (by decide)).trans x17
  replace k37 : M.2.1 37 = (20, 12) := (congrFun hd.2.1 37).trans k37
  replace z37 : M.2.2 37 = fun _ => .int 0 := (hd.toWd.2.2 37 (by decide)).trans z37
  replace x18 : M.2.2 25 18 = .ref 37 := (hd.2.2.2 25 18 (by decide)).trans x18
  replace k38 : M.2.1 38 = (20, 12) := (congrFun hd.2.1 38).trans k38
  replace z38 : M.2.2 38 = fun _ => .int 0 := (hd.toWd.2.2 38 (by decide)).trans z38
  replace x19 : M.2.2 25 19 = .ref 38 := (hd.2.2.2 25 19 (by decide)).trans x19
  replace k39 : M.2.1 39 = (20, 12) := (congrFun hd.2.1 39).trans k39
  replace z39 : M.2.2 39 = fun _ => .int 0 := (hd.toWd.2.2 39 (by decide)).trans z39
  replace x20 : M.2.2 25 20 = .ref 39 := (hd.2.2.2 25 20 (by decide)).trans x20
  replace k40 : M.2.1 40 = (20, 12) := (congrFun hd.2.1 40).trans k40
  replace z40 : M.2.2 40 = fun _ => .int 0 := (hd.toWd.2.2 40 (by decide)).trans z40
  replace x21 : M.2.2 25 21 = .ref 40 := (hd.2.2.2 25 21 (by decide)).trans x21
  replace k41 : M.2.1 41 = (20, 300) := (congrFun hd.2.1 41).trans k41
  replace z41 : M.2.2 41 = fun _ => .int 0 := (hd.toWd.2.2 41 (by decide)).trans z41
  replace x22 : M.2.2 25 22 = .ref 41 := (hd.2.2.2 25 22 (by decide)).trans x22
  replace k42 : M.2.1 42 = (20, 9) := (congrFun hd.2.1 42).trans k42
  replace z42 : M.2.2 42 = fun _ => .int 0 := (hd.toWd.2.2 42 (by decide)).trans z42
  replace x25 : M.2.2 25 25 = .ref 42 := (hd.2.2.2 25 25 (by decide)).trans x25
  replace k43 : M.2.1 43 = (20, 9) := (congrFun hd.2.1 43).trans k43
  replace z43 : M.2.2 43 = fun _ => .int 0 := (hd.toWd.2.2 43 (by decide)).trans z43
  replace x26 : M.2.2 25 26 = .ref 43 := (hd.2.2.2 25 26 (by decide)).trans x26
  replace k44 : M.2.1 44 = (20, 9) := (congrFun hd.2.1 44).trans k44
  replace z44 : M.2.2 44 = fun _ => .int 0 := (hd.toWd.2.2 44 (by decide)).trans z44
  replace x27 : M.2.2 25 27 = .ref 44 := (hd.2.2.2 25 27 (by decide)).trans x27
  replace k45 : M.2.1 45 = (20, 4) := (congrFun hd.2.1 45).trans k45
  replace z45 : M.2.2 45 = fun _ => .int 0 := (hd.toWd.2.2 45 (by decide)).trans z45
  replace x28 : M.2.2 25 28 = .ref 45 := (hd.2.2.2 25 28 (by decide)).trans x28
  replace k46 : M.2.1 46 = (20, 4) := (congrFun hd.2.1 46).trans k46
  replace z46 : M.2.2 46 = fun _ => .int 0 := (hd.toWd.2.2 46 (by decide)).trans z46
  replace hF := hF.wd hd.toWd (by decide)
  replace hM := hd.1.trans hM
  have x29 : M.2.2 25 29 = .ref 46 := hd.2.2.1
  clear hd
  refine aw_aload0 172 dX12_init_172 ?_
  refine aw_sipush 173 240 dX12_init_173 (by decide) ?_
  refine na_new 176 (240) (47) dX12_init_176 rfl (by decide) hM (by decide) (by decide) (fun M hd => ?_)
  replace kX : M.2.1 25 = (12, 33) := ((hd.2.2.2 25 (by decide)).1).trans kX
  replace x0 : M.2.2 25 0 = .int 0 := (congrFun (hd.2.2.2 25 (by decide)).2 0).trans x0
  replace x1 : M.2.2 25 1 = .int 0 := (congrFun (hd.2.2.2 25 (by decide)).2 1).trans x1
  replace x6 : M.2.2 25 6 = .int 0 := (congrFun (hd.2.2.2 25 (by decide)).2 6).trans x6
  replace x8 : M.2.2 25 8 = .int 0 := (congrFun (hd.2.2.2 25 (by decide)).2 8).trans x8
  replace x9 : M.2.2 25 9 = .int 0 := (congrFun (hd.2.2.2 25 (by decide)).2 9).trans x9
  replace x10 : M.2.2 25 10 = .int 0 := (congrFun (hd.2.2.2 25 (by decide)).2 10).trans x10
  replace x13 : M.2.2 25 13 = .int 0 := (congrFun (hd.2.2.2 25 (by decide)).2 13).trans x13
  replace x23 : M.2.2 25 23 = .int 0 := (congrFun (hd.2.2.2 25 (by decide)).2 23).trans x23
  replace x24 : M.2.2 25 24 = .int 0 := (congrFun (hd.2.2.2 25 (by decide)).2 24).trans x24
  replace x32 : M.2.2 25 32 = .int 0 := (congrFun (hd.2.2.2 25 (by decide)).2 32).trans x32
  replace k26 : M.2.1 26 = (20, 12) := ((hd.2.2.2 26 (by decide)).1).trans k26
  replace z26 : M.2.2 26 = fun _ => .int 0 := ((hd.2.2.2 26 (by decide)).2).trans z26
  replace x2 : M.2.2 25 2 = .ref 26 := (congrFun (hd.2.2.2 25 (by decide)).2 2).trans x2
  replace k27 : M.2.1 27 = (20, 12) := ((hd.2.2.2 27 (by decide)).1).trans k27
  replace z27 : M.2.2 27 = fun _ => .int 0 := ((hd.2.2.2 27 (by decide)).2).trans z27
  replace x3 : M.2.2 25 3 = .ref 27 := (congrFun (hd.2.2.2 25 (by decide)).2 3).trans x3
  replace k28 : M.2.1 28 = (20, 192) := ((hd.2.2.2 28 (by decide)).1).trans k28
  replace z28 : M.2.2 28 = fun _ => .int 0 := ((hd.2.2.2 28 (by decide)).2).trans z28
  replace x4 : M.2.2 25 4 = .ref 28 := (congrFun (hd.2.2.2 25 (by decide)).2 4).trans x4
  replace k29 : M.2.1 29 = (20, 32) := ((hd.2.2.2 29 (by decide)).1).trans k29
  replace z29 : M.2.2 29 = fun _ => .int 0 := ((hd.2.2.2 29 (by decide)).2).trans z29
  replace x5 : M.2.2 25 5 = .ref 29 := (congrFun (hd.2.2.2 25 (by decide)).2 5).trans x5
  replace k30 : M.2.1 30 = (20, 25) := ((hd.2.2.2 30 (by decide)).1).trans k30
  replace z30 : M.2.2 30 = fun _ => .int 0 := ((hd.2.2.2 30 (by decide)).2).trans z30
  replace x7 : M.2.2 25 7 = .ref 30 := (congrFun (hd.2.2.2 25 (by decide)).2 7).trans x7
  replace k31 : M.2.1 31 = (20, 16) := ((hd.2.2.2 31 (by decide)).1).trans k31
  replace z31 : M.2.2 31 = fun _ => .int 0 := ((hd.2.2.2 31 (by decide)).2).trans z31
  replace x11 : M.2.2 25 11 = .ref 31 := (congrFun (hd.2.2.2 25 (by decide)).2 11).trans x11
  replace k32 : M.2.1 32 = (20, 16) := ((hd.2.2.2 32 (by decide)).1).trans k32
  replace z32 : M.2.2 32 = fun _ => .int 0 := ((hd.2.2.2 32 (by decide)).2).trans z32
  replace x12 : M.2.2 25 12 = .ref 32 := (congrFun (hd.2.2.2 25 (by decide)).2 12).trans x12
  replace k33 : M.2.1 33 = (20, 6) := ((hd.2.2.2 33 (by decide)).1).trans k33
  replace z33 : M.2.2 33 = fun _ => .int 0 := ((hd.2.2.2 33 (by decide)).2).trans z33
  replace x14 : M.2.2 25 14 = .ref 33 := (congrFun (hd.2.2.2 25 (by decide)).2 14).trans x14
  replace k34 : M.2.1 34 = (20, 6) := ((hd.2.2.2 34 (by decide)).1).trans k34
  replace z34 : M.2.2 34 = fun _ => .int 0 := ((hd.2.2.2 34 (by decide)).2).trans z34
  replace x15 : M.2.2 25 15 = .ref 34 := (congrFun (hd.2.2.2 25 (by decide)).2 15).trans x15
  replace k35 : M.2.1 35 = (20, 12) := ((hd.2.2.2 35 (by decide)).1).trans k35
  replace z35 : M.2.2 35 = fun _ => .int 0 := ((hd.2.2.2 35 (by decide)).2).trans z35
  replace x16 : M.2.2 25 16 = .ref 35 := (congrFun (hd.2.2.2 25 (by decide)).2 16).trans x16
  replace k36 : M.2.1 36 = (20, 12) := ((hd.2.2.2 36 (by decide)).1).trans k36
  replace z36 : M.2.2 36 = fun _ => .int 0 := ((hd.2.2.2 36 (by decide)).2).trans z36
  replace x17 : M.2.2 25 17 = .ref 36 := (congrFun (hd.2.2.2 25 (by decide)).2 17).trans x17
  replace k37 : M.2.1 37 = (20, 12) := ((hd.2.2.2 37 (by decide)).1).trans k37
  replace z37 : M.2.2 37 = fun _ => .int 0 := ((hd.2.2.2 37 (by decide)).2).trans z37
  replace x18 : M.2.2 25 18 = .ref 37 := (congrFun (hd.2.2.2 25 (by decide)).2 18).trans x18
  replace k38 : M.2.1 38 = (20, 12) := ((hd.2.2.2 38 (by decide)).1).trans k38
  replace z38 : M.2.2 38 = fun _ => .int 0 := ((hd.2.2.2 38 (by decide)).2).trans z38
  replace x19 : M.2.2 25 19 = .ref 38 := (congrFun (hd.2.2.2 25 (by decide)).2 19).trans x19
  replace k39 : M.2.1 39 = (20, 12) := ((hd.2.2.2 39 (by decide)).1).trans k39
  replace z39 : M.2.2 39 = fun _ => .int 0 := ((hd.2.2.2 39 (by decide)).2).trans z39
  replace x20 : M.2.2 25 20 = .ref 39 := (congrFun (hd.2.2.2 25 (by decide)).2 20).trans x20
  replace k40 : M.2.1 40 = (20, 12) := ((hd.2.2.2 40 (by decide)).1).trans k40
  replace z40 : M.2.2 40 = fun _ => .int 0 := ((hd.2.2.2 40 (by decide)).2).trans z40
  replace x21 : M.2.2 25 21 = .ref 40 := (congrFun (hd.2.2.2 25 (by decide)).2 21).trans x21
  replace k41 : M.2.1 41 = (20, 300) := ((hd.2.2.2 41 (by decide)).1).trans k41
  replace z41 : M.2.2 41 = fun _ => .int 0 := ((hd.2.2.2 41 (by decide)).2).trans z41
  replace x22 : M.2.2 25 22 = .ref 41 := (congrFun (hd.2.2.2 25 (by decide)).2 22).trans x22
  replace k42 : M.2.1 42 = (20, 9) := ((hd.2.2.2 42 (by decide)).1).trans k42
  replace z42 : M.2.2 42 = fun _ => .int 0 := ((hd.2.2.2 42 (by decide)).2).trans z42
  replace x25 : M.2.2 25 25 = .ref 42 := (congrFun (hd.2.2.2 25 (by decide)).2 25).trans x25
  replace k43 : M.2.1 43 = (20, 9) := ((hd.2.2.2 43 (by decide)).1).trans k43
  replace z43 : M.2.2 43 = fun _ => .int 0 := ((hd.2.2.2 43 (by decide)).2).trans z43
  replace x26 : M.2.2 25 26 = .ref 43 := (congrFun (hd.2.2.2 25 (by decide)).2 26).trans x26
  replace k44 : M.2.1 44 = (20, 9) := ((hd.2.2.2 44 (by decide)).1).trans k44
  replace z44 : M.2.2 44 = fun _ => .int 0 := ((hd.2.2.2 44 (by decide)).2).trans z44
  replace x27 : M.2.2 25 27 = .ref 44 := (congrFun (hd.2.2.2 25 (by decide)).2 27).trans x27
  replace k45 : M.2.1 45 = (20, 4) := ((hd.2.2.2 45 (by decide)).1).trans k45
  replace z45 : M.2.2 45 = fun _ => .int 0 := ((hd.2.2.2 45 (by decide)).2).trans z45
  replace x28 : M.2.2 25 28 = .ref 45 := (congrFun (hd.2.2.2 25 (by decide)).2 28).trans x28
  replace k46 : M.2.1 46 = (20, 4) := ((hd.2.2.2 46 (by decide)).1).trans k46
  replace z46 : M.2.2 46 = fun _ => .int 0 := ((hd.2.2.2 46 (by decide)).2).trans z46
  replace x29 : M.2.2 25 29 = .ref 46 := (congrFun (hd.2.2.2 25 (by decide)).2 29).trans x29
  replace hF := hF.nw hd (by decide)
  have k47 : M.2.1 47 = (20, 240) := hd.2.1
  have z47 : M.2.2 47 = fun _ => .int 0 := hd.2.2.1
  replace hM : M.1 = 48 := hd.1
  clear hd
  refine fp_putF 178 dX12_init_178 ckF_RX12_73_12 ckQ_RX12_12_30 rfl kX rfl rfl (fun M hd => ?_)
  replace kX : M.2.1 25 = (12, 33) := (congrFun hd.2.1 25).trans kX
  replace x0 : M.2.2 25 0 = .int 0 := (hd.2.2.2 25 0 (by decide)).trans x0
  replace x1 : M.2.2 25 1 = .int 0 := (hd.2.2.2 25 1 (by decide)).trans x1
  replace x6 : M.2.2 25 6 = .int 0 := (hd.2.2.2 25 6 (by decide)).trans x6
  replace x8 : M.2.2 25 8 = .int 0 := (hd.2.2.2 25 8 (by decide)).trans x8
  replace x9 : M.2.2 25 9 = .int 0 := (hd.2.2.2 25 9 (by decide)).trans x9
  replace x10 : M.2.2 25 10 = .int 0 := (hd.2.2.2 25 10 (by decide)).trans x10
  replace x13 : M.2.2 25 13 = .int 0 := (hd.2.2.2 25 13 (by decide)).trans x13
  replace x23 : M.2.2 25 23 = .int 0 := (hd.2.2.2 25 23 (by decide)).trans x23
  replace x24 : M.2.2 25 24 = .int 0 := (hd.2.2.2 25 24 (by decide)).trans x24
  replace x32 : M.2.2 25 32 = .int 0 := (hd.2.2.2 25 32 (by decide)).trans x32
  replace k26 : M.2.1 26 = (20, 12) := (congrFun hd.2.1 26).trans k26
  replace z26 : M.2.2 26 = fun _ => .int 0 := (hd.toWd.2.2 26 (by decide)).trans z26
  replace x2 : M.2.2 25 2 = .ref 26 := (hd.2.2.2 25 2 (by decide)).trans x2
  replace k27 : M.2.1 27 = (20, 12) := (congrFun hd.2.1 27).trans k27
  replace z27 : M.2.2 27 = fun _ => .int 0 := (hd.toWd.2.2 27 (by decide)).trans z27
  replace x3 : M.2.2 25 3 = .ref 27 := (hd.2.2.2 25 3 (by decide)).trans x3
  replace k28 : M.2.1 28 = (20, 192) := (congrFun hd.2.1 28).trans k28
  replace z28 : M.2.2 28 = fun _ => .int 0 := (hd.toWd.2.2 28 (by decide)).trans z28
  replace x4 : M.2.2 25 4 = .ref 28 := (hd.2.2.2 25 4 (by decide)).trans x4
  replace k29 : M.2.1 29 = (20, 32) := (congrFun hd.2.1 29).trans k29
  replace z29 : M.2.2 29 = fun _ => .int 0 := (hd.toWd.2.2 29 (by decide)).trans z29
  replace x5 : M.2.2 25 5 = .ref 29 := (hd.2.2.2 25 5 (by decide)).trans x5
  replace k30 : M.2.1 30 = (20, 25) := (congrFun hd.2.1 30).trans k30
  replace z30 : M.2.2 30 = fun _ => .int 0 := (hd.toWd.2.2 30 (by decide)).trans z30
  replace x7 : M.2.2 25 7 = .ref 30 := (hd.2.2.2 25 7 (by decide)).trans x7
  replace k31 : M.2.1 31 = (20, 16) := (congrFun hd.2.1 31).trans k31
  replace z31 : M.2.2 31 = fun _ => .int 0 := (hd.toWd.2.2 31 (by decide)).trans z31
  replace x11 : M.2.2 25 11 = .ref 31 := (hd.2.2.2 25 11 (by decide)).trans x11
  replace k32 : M.2.1 32 = (20, 16) := (congrFun hd.2.1 32).trans k32
  replace z32 : M.2.2 32 = fun _ => .int 0 := (hd.toWd.2.2 32 (by decide)).trans z32
  replace x12 : M.2.2 25 12 = .ref 32 := (hd.2.2.2 25 12 (by decide)).trans x12
  replace k33 : M.2.1 33 = (20, 6) := (congrFun hd.2.1 33).trans k33
  replace z33 : M.2.2 33 = fun _ => .int 0 := (hd.toWd.2.2 33 (by decide)).trans z33
  replace x14 : M.2.2 25 14 = .ref 33 := (hd.2.2.2 25 14 (by decide)).trans x14
  replace k34 : M.2.1 34 = (20, 6) := (congrFun hd.2.1 34).trans k34
  replace z34 : M.2.2 34 = fun _ => .int 0 := (hd.toWd.2.2 34 (by decide)).trans z34
  replace x15 : M.2.2 25 15 = .ref 34 := (hd.2.2.2 25 15 (by decide)).trans x15
  replace k35 : M.2.1 35 = (20, 12) := (congrFun hd.2.1 35).trans k35
  replace z35 : M.2.2 35 = fun _ => .int 0 := (hd.toWd.2.2 35 (by decide)).trans z35
  replace x16 : M.2.2 25 16 = .ref 35 := (hd.2.2.2 25 16 (by decide)).trans x16
  replace k36 : M.2.1 36 = (20, 12) := (congrFun hd.2.1 36).trans k36
  replace z36 : M.2.2 36 = fun _ => .int 0 := (hd.toWd.2.2 36 (by decide)).trans z36
  replace x17 : M.2.2 25 17 = .ref 36 := (hd.2.2.2 25 17 (by decide)).trans x17
  replace k37 : M.2.1 37 = (20, 12) := (congrFun hd.2.1 37).trans k37
  replace z37 : M.2.2 37 = fun _ => .int 0 := (hd.toWd.2.2 37 (by decide)).trans z37
  replace x18 : M.2.2 25 18 = .ref 37 := (hd.2.2.2 25 18 (by decide)).trans x18
  replace k38 : M.2.1 38 = (20, 12) := (congrFun hd.2.1 38).trans k38
  replace z38 : M.2.2 38 = fun _ => .int 0 := (hd.toWd.2.2 38 (by decide)).trans z38
  replace x19 : M.2.2 25 19 = .ref 38 := (hd.2.2.2 25 19 (by decide)).trans x19
  replace k39 : M.2.1 39 = (20, 12) := (congrFun hd.2.1 39).trans k39
  replace z39 : M.2.2 39 = fun _ => .int 0 := (hd.toWd.2.2 39 (by decide)).trans z39
  replace x20 : M.2.2 25 20 = .ref 39 := (hd.2.2.2 25 20 (by decide)).trans x20
  replace k40 : M.2.1 40 = (20, 12) := (congrFun hd.2.1 40).trans k40
  replace z40 : M.2.2 40 = fun _ => .int 0 := (hd.toWd.2.2 40 (by decide)).trans z40
  replace x21 : M.2.2 25 21 = .ref 40 := (hd.2.2.2 25 21 (by decide)).trans x21
  replace k41 : M.2.1 41 = (20, 300) := (congrFun hd.2.1 41).trans k41
  replace z41 : M.2.2 41 = fun _ => .int 0 := (hd.toWd.2.2 41 (by decide)).trans z41
  replace x22 : M.2.2 25 22 = .ref 41 := (hd.2.2.2 25 22 (by decide)).trans x22
  replace k42 : M.2.1 42 = (20, 9) := (congrFun hd.2.1 42).trans k42
  replace z42 : M.2.2 42 = fun _ => .int 0 := (hd.toWd.2.2 42 (by decide)).trans z42
  replace x25 : M.2.2 25 25 = .ref 42 := (hd.2.2.2 25 25 (by decide)).trans x25
  replace k43 : M.2.1 43 = (20, 9) := (congrFun hd.2.1 43).trans k43
  replace z43 : M.2.2 43 = fun _ => .int 0 := (hd.toWd.2.2 43 (by decide)).trans z43
  replace x26 : M.2.2 25 26 = .ref 43 := (hd.2.2.2 25 26 (by decide)).trans x26
  replace k44 : M.2.1 44 = (20, 9) := (congrFun hd.2.1 44).trans k44
  replace z44 : M.2.2 44 = fun _ => .int 0 := (hd.toWd.2.2 44 (by decide)).trans z44
  replace x27 : M.2.2 25 27 = .ref 44 := (hd.2.2.2 25 27 (by decide)).trans x27
  replace k45 : M.2.1 45 = (20, 4) := (congrFun hd.2.1 45).trans k45
  replace z45 : M.2.2 45 = fun _ => .int 0 := (hd.toWd.2.2 45 (by decide)).trans z45
  replace x28 : M.2.2 25 28 = .ref 45 := (hd.2.2.2 25 28 (by decide)).trans x28
  replace k46 : M.2.1 46 = (20, 4) := (congrFun hd.2.1 46).trans k46
  replace z46 : M.2.2 46 = fun _ => .int 0 := (hd.toWd.2.2 46 (by decide)).trans z46
  replace x29 : M.2.2 25 29 = .ref 46 := (hd.2.2.2 25 29 (by decide)).trans x29
  replace k47 : M.2.1 47 = (20, 240) := (congrFun hd.2.1 47).trans k47
  replace z47 : M.2.2 47 = fun _ => .int 0 := (hd.toWd.2.2 47 (by decide)).trans z47
  replace hF := hF.wd hd.toWd (by decide)
  replace hM := hd.1.trans hM
  have x30 : M.2.2 25 30 = .ref 47 := hd.2.2.1
  clear hd
  refine aw_aload0 181 dX12_init_181 ?_
  refine aw_bipush 182 60 dX12_init_182 (by decide) ?_
  refine na_new 184 (60) (48) dX12_init_184 rfl (by decide) hM (by decide) (by decide) (fun M hd => ?_)
  replace kX : M.2.1 25 = (12, 33) := ((hd.2.2.2 25 (by decide)).1).trans kX
  replace x0 : M.2.2 25 0 = .int 0 := (congrFun (hd.2.2.2 25 (by decide)).2 0).trans x0
  replace x1 : M.2.2 25 1 = .int 0 := (congrFun (hd.2.2.2 25 (by decide)).2 1).trans x1
  replace x6 : M.2.2 25 6 = .int 0 := (congrFun (hd.2.2.2 25 (by decide)).2 6).trans x6
  replace x8 : M.2.2 25 8 = .int 0 := (congrFun (hd.2.2.2 25 (by decide)).2 8).trans x8
  replace x9 : M.2.2 25 9 = .int 0 := (congrFun (hd.2.2.2 25 (by decide)).2 9).trans x9
  replace x10 : M.2.2 25 10 = .int 0 := (congrFun (hd.2.2.2 25 (by decide)).2 10).trans x10
  replace x13 : M.2.2 25 13 = .int 0 := (congrFun (hd.2.2.2 25 (by decide)).2 13).trans x13
  replace x23 : M.2.2 25 23 = .int 0 := (congrFun (hd.2.2.2 25 (by decide)).2 23).trans x23
  replace x24 : M.2.2 25 24 = .int 0 := (congrFun (hd.2.2.2 25 (by decide)).2 24).trans x24
  replace x32 : M.2.2 25 32 = .int 0 := (congrFun (hd.2.2.2 25 (by decide)).2 32).trans x32
  replace k26 : M.2.1 26 = (20, 12) := ((hd.2.2.2 26 (by decide)).1).trans k26
  replace z26 : M.2.2 26 = fun _ => .int 0 := ((hd.2.2.2 26 (by decide)).2).trans z26
  replace x2 : M.2.2 25 2 = .ref 26 := (congrFun (hd.2.2.2 25 (by decide)).2 2).trans x2
  replace k27 : M.2.1 27 = (20, 12) := ((hd.2.2.2 27 (by decide)).1).trans k27
  replace z27 : M.2.2 27 = fun _ => .int 0 := ((hd.2.2.2 27 (by decide)).2).trans z27
  replace x3 : M.2.2 25 3 = .ref 27 := (congrFun (hd.2.2.2 25 (by decide)).2 3).trans x3
  replace k28 : M.2.1 28 = (20, 192) := ((hd.2.2.2 28 (by decide)).1).trans k28
  replace z28 : M.2.2 28 = fun _ => .int 0 := ((hd.2.2.2 28 (by decide)).2).trans z28
  replace x4 : M.2.2 25 4 = .ref 28 := (congrFun (hd.2.2.2 25 (by decide)).2 4).trans x4
  replace k29 : M.2.1 29 = (20, 32) := ((hd.2.2.2 29 (by decide)).1).trans k29
  replace z29 : M.2.2 29 = fun _ => .int 0 := ((hd.2.2.2 29 (by decide)).2).trans z29
  replace x5 : M.2.2 25 5 = .ref 29 := (congrFun (hd.2.2.2 25 (by decide)).2 5).trans x5
  replace k30 : M.2.1 30 = (20, 25) := ((hd.2.2.2 30 (by decide)).1).trans k30
  replace z30 : M.2.2 30 = fun _ => .int 0 := ((hd.2.2.2 30 (by decide)).2).trans z30
  replace x7 : M.2.2 25 7 = .ref 30 := (congrFun (hd.2.2.2 25 (by decide)).2 7).trans x7
  replace k31 : M.2.1 31 = (20, 16) := ((hd.2.2.2 31 (by decide)).1).trans k31
  replace z31 : M.2.2 31 = fun _ => .int 0 := ((hd.2.2.2 31 (by decide)).2).trans z31
  replace x11 : M.2.2 25 11 = .ref 31 := (congrFun (hd.2.2.2 25 (by decide)).2 11).trans x11
  replace k32 : M.2.1 32 = (20, 16) := ((hd.2.2.2 32 (by decide)).1).trans k32
  replace z32 : M.2.2 32 = fun _ => .int 0 := ((hd.2.2.2 32 (by decide)).2).trans z32
  replace x12 : M.2.2 25 12 = .ref 32 := (congrFun (hd.2.2.2 25 (by decide)).2 12).trans x12
  replace k33 : M.2.1 33 = (20, 6) := ((hd.2.2.2 33 (by decide)).1).trans k33
  replace z33 : M.2.2 33 = fun _ => .int 0 := ((hd.2.2.2 33 (by decide)).2).trans z33
  replace x14 : M.2.2 25 14 = .ref 33 := (congrFun (hd.2.2.2 25 (by decide)).2 14).trans x14
  replace k34 : M.2.1 34 = (20, 6) := ((hd.2.2.2 34 (by decide)).1).trans k34
  replace z34 : M.2.2 34 = fun _ => .int 0 := ((hd.2.2.2 34 (by decide)).2).trans z34
  replace x15 : M.2.2 25 15 = .ref 34 := (congrFun (hd.2.2.2 25 (by decide)).2 15).trans x15
  replace k35 : M.2.1 35 = (20, 12) := ((hd.2.2.2 35 (by decide)).1).trans k35
  replace z35 : M.2.2 35 = fun _ => .int 0 := ((hd.2.2.2 35 (by decide)).2).trans z35
  replace x16 : M.2.2 25 16 = .ref 35 := (congrFun (hd.2.2.2 25 (by decide)).2 16).trans x16
  replace k36 : M.2.1 36 = (20, 12) := ((hd.2.2.2 36 (by decide)).1).trans k36
  replace z36 : M.2.2 36 = fun _ => .int 0 := ((hd.2.2.2 36 (by decide)).2).trans z36
  replace x17 : M.2.2 25 17 = .ref 36 := (congrFun (hd.2.2.2 25 (by decide)).2 17).trans x17
  replace k37 : M.2.1 37 = (20, 12) := ((hd.2.2.2 37 (by decide)).1).trans k37
  replace z37 : M.2.2 37 = fun _ => .int 0 := ((hd.2.2.2 37 (by decide)).2).trans z37
  replace x18 : M.2.2 25 18 = .ref 37 := (congrFun (hd.2.2.2 25 (by decide)).2 18).trans x18
  replace k38 : M.2.1 38 = (20, 12) := ((hd.2.2.2 38 (by decide)).1).trans k38
  replace z38 : M.2.2 38 = fun _ => .int 0 := ((hd.2.2.2 38 (by decide)).2).trans z38
  replace x19 : M.2.2 25 19 = .ref 38 := (congrFun (hd.2.2.2 25 (by decide)).2 19).trans x19
  replace k39 : M.2.1 39 = (20, 12) := ((hd.2.2.2 39 (by decide)).1).trans k39
  replace z39 : M.2.2 39 = fun _ => .int 0 := ((hd.2.2.2 39 (by decide)).2).trans z39
  replace x20 : M.2.2 25 20 = .ref 39 := (congrFun (hd.2.2.2 25 (by decide)).2 20).trans x20
  replace k40 : M.2.1 40 = (20, 12) := ((hd.2.2.2 40 (by decide)).1).trans k40
  replace z40 : M.2.2 40 = fun _ => .int 0 := ((hd.2.2.2 40 (by decide)).2).trans z40
  replace x21 : M.2.2 25 21 = .ref 40 := (congrFun (hd.2.2.2 25 (by decide)).2 21).trans x21
  replace k41 : M.2.1 41 = (20, 300) := ((hd.2.2.2 41 (by decide)).1).trans k41
  replace z41 : M.2.2 41 = fun _ => .int 0 := ((hd.2.2.2 41 (by decide)).2).trans z41
  replace x22 : M.2.2 25 22 = .ref 41 := (congrFun (hd.2.2.2 25 (by decide)).2 22).trans x22
  replace k42 : M.2.1 42 = (20, 9) := ((hd.2.2.2 42 (by decide)).1).trans k42
  replace z42 : M.2.2 42 = fun _ => .int 0 := ((hd.2.2.2 42 (by decide)).2).trans z42
  replace x25 : M.2.2 25 25 = .ref 42 := (congrFun (hd.2.2.2 25 (by decide)).2 25).trans x25
  replace k43 : M.2.1 43 = (20, 9) := ((hd.2.2.2 43 (by decide)).1).trans k43
  replace z43 : M.2.2 43 = fun _ => .int 0 := ((hd.2.2.2 43 (by decide)).2).trans z43
  replace x26 : M.2.2 25 26 = .ref 43 := (congrFun (hd.2.2.2 25 (by decide)).2 26).trans x26
  replace k44 : M.2.1 44 = (20, 9) := ((hd.2.2.2 44 (by decide)).1).trans k44
  replace z44 : M.2.2 44 = fun _ => .int 0 := ((hd.2.2.2 44 (by decide)).2).trans z44
  replace x27 : M.2.2 25 27 = .ref 44 := (congrFun (hd.2.2.2 25 (by decide)).2 27).trans x27
  replace k45 : M.2.1 45 = (20, 4) := ((hd.2.2.2 45 (by decide)).1).trans k45
  replace z45 : M.2.2 45 = fun _ => .int 0 := ((hd.2.2.2 45 (by decide)).2).trans z45
  replace x28 : M.2.2 25 28 = .ref 45 := (congrFun (hd.2.2.2 25 (by decide)).2 28).trans x28
  replace k46 : M.2.1 46 = (20, 4) := ((hd.2.2.2 46 (by decide)).1).trans k46
  replace z46 : M.2.2 46 = fun _ => .int 0 := ((hd.2.2.2 46 (by decide)).2).trans z46
  replace x29 : M.2.2 25 29 = .ref 46 := (congrFun (hd.2.2.2 25 (by decide)).2 29).trans x29
  replace k47 : M.2.1 47 = (20, 240) := ((hd.2.2.2 47 (by decide)).1).trans k47
  replace z47 : M.2.2 47 = fun _ => .int 0 := ((hd.2.2.2 47 (by decide)).2).trans z47
  replace x30 : M.2.2 25 30 = .ref 47 := (congrFun (hd.2.2.2 25 (by decide)).2 30).trans x30
  replace hF := hF.nw hd (by decide)
  have k48 : M.2.1 48 = (20, 60) := hd.2.1
  have z48 : M.2.2 48 = fun _ => .int 0 := hd.2.2.1
  replace hM : M.1 = 49 := hd.1
  clear hd
  refine fp_putF 186 dX12_init_186 ckF_RX12_76_12 ckQ_RX12_12_31 rfl kX rfl rfl (fun M hd => ?_)
  replace kX : M.2.1 25 = (12, 33) := (congrFun hd.2.1 25).trans kX
  replace x0 : M.2.2 25 0 = .int 0 := (hd.2.2.2 25 0 (by decide)).trans x0
  replace x1 : M.2.2 25 1 = .int 0 := (hd.2.2.2 25 1 (by decide)).trans x1
  replace x6 : M.2.2 25 6 = .int 0 := (hd.2.2.2 25 6 (by decide)).trans x6
  replace x8 : M.2.2 25 8 = .int 0 := (hd.2.2.2 25 8 (by decide)).trans x8
  replace x9 : M.2.2 25 9 = .int 0 := (hd.2.2.2 25 9 (by decide)).trans x9
  replace x10 : M.2.2 25 10 = .int 0 := (hd.2.2.2 25 10 (by decide)).trans x10
  replace x13 : M.2.2 25 13 = .int 0 := (hd.2.2.2 25 13 (by decide)).trans x13
  replace x23 : M.2.2 25 23 = .int 0 := (hd.2.2.2 25 23 (by decide)).trans x23
  replace x24 : M.2.2 25 24 = .int 0 := (hd.2.2.2 25 24 (by decide)).trans x24
  replace x32 : M.2.2 25 32 = .int 0 := (hd.2.2.2 25 32 (by decide)).trans x32
  replace k26 : M.2.1 26 = (20, 12) := (congrFun hd.2.1 26).trans k26
  replace z26 : M.2.2 26 = fun _ => .int 0 := (hd.toWd.2.2 26 (by decide)).trans z26
  replace x2 : M.2.2 25 2 = .ref 26 := (hd.2.2.2 25 2 (by decide)).trans x2
  replace k27 : M.2.1 27 = (20, 12) := (congrFun hd.2.1 27).trans k27
  replace z27 : M.2.2 27 = fun _ => .int 0 := (hd.toWd.2.2 27 (by decide)).trans z27
  replace x3 : M.2.2 25 3 = .ref 27 := (hd.2.2.2 25 3 (by decide)).trans x3
  replace k28 : M.2.1 28 = (20, 192) := (congrFun hd.2.1 28).trans k28
  replace z28 : M.2.2 28 = fun _ => .int 0 := (hd.toWd.2.2 28 (by decide)).trans z28
  replace x4 : M.2.2 25 4 = .ref 28 := (hd.2.2.2 25 4 (by decide)).trans x4
  replace k29 : M.2.1 29 = (20, 32) := (congrFun hd.2.1 29).trans k29
  replace z29 : M.2.2 29 = fun _ => .int 0 := (hd.toWd.2.2 29 (by decide)).trans z29
  replace x5 : M.2.2 25 5 = .ref 29 := (hd.2.2.2 25 5 (by decide)).trans x5
  replace k30 : M.2.1 30 = (20, 25) := (congrFun hd.2.1 30).trans k30
  replace z30 : M.2.2 30 = fun _ => .int 0 := (hd.toWd.2.2 30 (by decide)).trans z30
  replace x7 : M.2.2 25 7 = .ref 30 := (hd.2.2.2 25 7 (by decide)).trans x7
  replace k31 : M.2.1 31 = (20, 16) := (congrFun hd.2.1 31).trans k31
  replace z31 : M.2.2 31 = fun _ => .int 0 := (hd.toWd.2.2 31 (by decide)).trans z31
  replace x11 : M.2.2 25 11 = .ref 31 := (hd.2.2.2 25 11 (by decide)).trans x11
  replace k32 : M.2.1 32 = (20, 16) := (congrFun hd.2.1 32).trans k32
  replace z32 : M.2.2 32 = fun _ => .int 0 := (hd.toWd.2.2 32 (by decide)).trans z32
  replace x12 : M.2.2 25 12 = .ref 32 := (hd.2.2.2 25 12 (by decide)).trans x12
  replace k33 : M.2.1 33 = (20, 6) := (congrFun hd.2.1 33).trans k33
  replace z33 : M.2.2 33 = fun _ => .int 0 := (hd.toWd.2.2 33 (by decide)).trans z33
  replace x14 : M.2.2 25 14 = .ref 33 := (hd.2.2.2 25 14 (by decide)).trans x14
  replace k34 : M.2.1 34 = (20, 6) := (congrFun hd.2.1 34).trans k34
  replace z34 : M.2.2 34 = fun _ => .int 0 := (hd.toWd.2.2 34 (by decide)).trans z34
  replace x15 : M.2.2 25 15 = .ref 34 := (hd.2.2.2 25 15 (by decide)).trans x15
  replace k35 : M.2.1 35 = (20, 12) := (congrFun hd.2.1 35).trans k35
  replace z35 : M.2.2 35 = fun _ => .int 0 := (hd.toWd.2.2 35 (by decide)).trans z35
  replace x16 : M.2.2 25 16 = .ref 35 := (hd.2.2.2 25 16 (by decide)).trans x16
  replace k36 : M.2.1 36 = (20, 12) := (congrFun hd.2.1 36).trans k36
  replace z36 : M.2.2 36 = fun _ => .int 0 := (hd.toWd.2.2 36 (by decide)).trans z36
  replace x17 : M.2.2 25 17 = .ref 36 := (hd.2.2.2 25 17 (by decide)).trans x17
  replace k37 : M.2.1 37 = (20, 12) := (congrFun hd.2.1 37).trans k37
  replace z37 : M.2.2 37 = fun _ => .int 0 := (hd.toWd.2.2 37 (by decide)).trans z37
  replace x18 : M.2.2 25 18 = .ref 37 := (hd.2.2.2 25 18 (by decide)).trans x18
  replace k38 : M.2.1 38 = (20, 12) := (congrFun hd.2.1 38).trans k38
  replace z38 : M.2.2 38 = fun _ => .int 0 := (hd.toWd.2.2 38 (by decide)).trans z38
  replace x19 : M.2.2 25 19 = .ref 38 := (hd.2.2.2 25 19 (by decide)).trans x19
  replace k39 : M.2.1 39 = (20, 12) := (congrFun hd.2.1 39).trans k39
  replace z39 : M.2.2 39 = fun _ => .int 0 := (hd.toWd.2.2 39 (by decide)).trans z39
  replace x20 : M.2.2 25 20 = .ref 39 := (hd.2.2.2 25 20 (by decide)).trans x20
  replace k40 : M.2.1 40 = (20, 12) := (congrFun hd.2.1 40).trans k40
  replace z40 : M.2.2 40 = fun _ => .int 0 := (hd.toWd.2.2 40 (by decide)).trans z40
  replace x21 : M.2.2 25 21 = .ref 40 := (hd.2.2.2 25 21 (by decide)).trans x21
  replace k41 : M.2.1 41 = (20, 300) := (congrFun hd.2.1 41).trans k41
  replace z41 : M.2.2 41 = fun _ => .int 0 := (hd.toWd.2.2 41 (by decide)).trans z41
  replace x22 : M.2.2 25 22 = .ref 41 := (hd.2.2.2 25 22 (by decide)).trans x22
  replace k42 : M.2.1 42 = (20, 9) := (congrFun hd.2.1 42).trans k42
  replace z42 : M.2.2 42 = fun _ => .int 0 := (hd.toWd.2.2 42 (by decide)).trans z42
  replace x25 : M.2.2 25 25 = .ref 42 := (hd.2.2.2 25 25 (by decide)).trans x25
  replace k43 : M.2.1 43 = (20, 9) := (congrFun hd.2.1 43).trans k43
  replace z43 : M.2.2 43 = fun _ => .int 0 := (hd.toWd.2.2 43 (by decide)).trans z43
  replace x26 : M.2.2 25 26 = .ref 43 := (hd.2.2.2 25 26 (by decide)).trans x26
  replace k44 : M.2.1 44 = (20, 9) := (congrFun hd.2.1 44).trans k44
  replace z44 : M.2.2 44 = fun _ => .int 0 := (hd.toWd.2.2 44 (by decide)).trans z44
  replace x27 : M.2.2 25 27 = .ref 44 := (hd.2.2.2 25 27 (by decide)).trans x27
  replace k45 : M.2.1 45 = (20, 4) := (congrFun hd.2.1 45).trans k45
  replace z45 : M.2.2 45 = fun _ => .int 0 := (hd.toWd.2.2 45 (by decide)).trans z45
  replace x28 : M.2.2 25 28 = .ref 45 := (hd.2.2.2 25 28 (by decide)).trans x28
  replace k46 : M.2.1 46 = (20, 4) := (congrFun hd.2.1 46).trans k46
  replace z46 : M.2.2 46 = fun _ => .int 0 := (hd.toWd.2.2 46 (by decide)).trans z46
  replace x29 : M.2.2 25 29 = .ref 46 := (hd.2.2.2 25 29 (by decide)).trans x29
  replace k47 : M.2.1 47 = (20, 240) := (congrFun hd.2.1 47).trans k47
  replace z47 : M.2.2 47 = fun _ => .int 0 := (hd.toWd.2.2 47 (by decide)).trans z47
  replace x30 : M.2.2 25 30 = .ref 47 := (hd.2.2.2 25 30 (by decide)).trans x30
  replace k48 : M.2.1 48 = (20, 60) := (congrFun hd.2.1 48).trans k48
  replace z48 : M.2.2 48 = fun _ => .int 0 := (hd.toWd.2.2 48 (by decide)).trans z48
  replace hF := hF.wd hd.toWd (by decide)
  replace hM := hd.1.trans hM
  have x31 : M.2.2 25 31 = .ref 48 := hd.2.2.1
  clear hd
  refine aw_ic0 189 dX12_init_189 ?_
  refine aw_istore1 190 dX12_init_190 rfl ?_
  have hW : RW (fun _ _ => 0) M := by
    refine ⟨kX, fun i hi => ?_⟩
    rcases (show i = 0 ∨ i = 1 ∨ i = 2 ∨ i = 3 ∨ i = 4 ∨ i = 5 ∨ i = 6 ∨ i = 7 ∨ i = 8 ∨ i = 9 ∨ i = 10 ∨ i = 11 ∨ i = 12 ∨ i = 13 ∨ i = 14 ∨ i = 15 ∨ i = 16 ∨ i = 17 ∨ i = 18 ∨ i = 19 ∨ i = 20 ∨ i = 21 ∨ i = 22 ∨ i = 23 ∨ i = 24 ∨ i = 25 ∨ i = 26 ∨ i = 27 ∨ i = 28 ∨ i = 29 ∨ i = 30 ∨ i = 31 ∨ i = 32 by omega) with rfl | rfl | rfl | rfl | rfl | rfl | rfl | rfl | rfl | rfl | rfl | rfl | rfl | rfl | rfl | rfl | rfl | rfl | rfl | rfl | rfl | rfl | rfl | rfl | rfl | rfl | rfl | rfl | rfl | rfl | rfl | rfl | rfl
    · exact ⟨fun _ => x0, fun q => absurd q (by decide)⟩
    · exact ⟨fun _ => x1, fun q => absurd q (by decide)⟩
    · exact ⟨fun q => absurd q (by decide), fun _ => ⟨x2, k26, fun k _ => by show M.2.2 26 k = _; rw [z26]⟩⟩
    · exact ⟨fun q => absurd q (by decide), fun _ => ⟨x3, k27, fun k _ => by show M.2.2 27 k = _; rw [z27]⟩⟩
    · exact ⟨fun q => absurd q (by decide), fun _ => ⟨x4, k28, fun k _ => by show M.2.2 28 k = _; rw [z28]⟩⟩
    · exact ⟨fun q => absurd q (by decide), fun _ => ⟨x5, k29, fun k _ => by show M.2.2 29 k = _; rw [z29]⟩⟩
    · exact ⟨fun _ => x6, fun q => absurd q (by decide)⟩
    · exact ⟨fun q => absurd q (by decide), fun _ => ⟨x7, k30, fun k _ => by show M.2.2 30 k = _; rw [z30]⟩⟩
    · exact ⟨fun _ => x8, fun q => absurd q (by decide)⟩
    · exact ⟨fun _ => x9, fun q => absurd q (by decide)⟩
    · exact ⟨fun _ => x10, fun q => absurd q (by decide)⟩
    · exact ⟨fun q => absurd q (by decide), fun _ => ⟨x11, k31, fun k _ => by show M.2.2 31 k = _; rw [z31]⟩⟩
    · exact ⟨fun q => absurd q (by decide), fun _ => ⟨x12, k32, fun k _ => by show M.2.2 32 k = _; rw [z32]⟩⟩
    · exact ⟨fun _ => x13, fun q => absurd q (by decide)⟩
    · exact ⟨fun q => absurd q (by decide), fun _ => ⟨x14, k33, fun k _ => by show M.2.2 33 k = _; rw [z33]⟩⟩
    · exact ⟨fun q => absurd q (by decide), fun _ => ⟨x15, k34, fun k _ => by show M.2.2 34 k = _; rw [z34]⟩⟩
    · exact ⟨fun q => absurd q (by decide), fun _ => ⟨x16, k35, fun k _ => by show M.2.2 35 k = _; rw [z35]⟩⟩
    · exact ⟨fun q => absurd q (by decide), fun _ => ⟨x17, k36, fun k _ => by show M.2.2 36 k = _; rw [z36]⟩⟩
    · exact ⟨fun q => absurd q (by decide), fun _ => ⟨x18, k37, fun k _ => by show M.2.2 37 k = _; rw [z37]⟩⟩
    · exact ⟨fun q => absurd q (by decide), fun _ => ⟨x19, k38, fun k _ => by show M.2.2 38 k = _; rw [z38]⟩⟩
    · exact ⟨fun q => absurd q (by decide), fun _ => ⟨x20, k39, fun k _ => by show M.2.2 39 k = _; rw [z39]⟩⟩
    · exact ⟨fun q => absurd q (by decide), fun _ => ⟨x21, k40, fun k _ => by show M.2.2 40 k = _; rw [z40]⟩⟩
    · exact ⟨fun q => absurd q (by decide), fun _ => ⟨x22, k41, fun k _ => by show M.2.2 41 k = _; rw [z41]⟩⟩
    · exact ⟨fun _ => x23, fun q => absurd q (by decide)⟩
    · exact ⟨fun _ => x24, fun q => absurd q (by decide)⟩
    · exact ⟨fun q => absurd q (by decide), fun _ => ⟨x25, k42, fun k _ => by show M.2.2 42 k = _; rw [z42]⟩⟩
    · exact ⟨fun q => absurd q (by decide), fun _ => ⟨x26, k43, fun k _ => by show M.2.2 43 k = _; rw [z43]⟩⟩
    · exact ⟨fun q => absurd q (by decide), fun _ => ⟨x27, k44, fun k _ => by show M.2.2 44 k = _; rw [z44]⟩⟩
    · exact ⟨fun q => absurd q (by decide), fun _ => ⟨x28, k45, fun k _ => by show M.2.2 45 k = _; rw [z45]⟩⟩
    · exact ⟨fun q => absurd q (by decide), fun _ => ⟨x29, k46, fun k _ => by show M.2.2 46 k = _; rw [z46]⟩⟩
    · exact ⟨fun q => absurd q (by decide), fun _ => ⟨x30, k47, fun k _ => by show M.2.2 47 k = _; rw [z47]⟩⟩
    · exact ⟨fun q => absurd q (by decide), fun _ => ⟨x31, k48, fun k _ => by show M.2.2 48 k = _; rw [z48]⟩⟩
    · exact ⟨fun _ => x32, fun q => absurd q (by decide)⟩
  have hRO : ∀ Mx, Mx = M → RO (fun _ _ => 0) M Mx := fun Mx e => by subst e; exact ⟨hW, Off.rf _⟩
  have hW2 := hRO M rfl
  clear hRO hW kX x0 x1 x6 x8 x9 x10 x13 x23 x24 x32 k26 z26 x2 k27 z27 x3 k28 z28 x4 k29 z29 x5 k30 z30 x7 k31 z31 x11 k32 z32 x12 k33 z33 x14 k34 z34 x15 k35 z35 x16 k36 z36 x17 k37 z37 x18 k38 z38 x19 k39 z39 x20 k40 z40 x21 k41 z41 x22 k42 z42 x25 k43 z43 x26 k44 z44 x27 k45 z45 x28 k46 z46 x29 k47 z47 x30 k48 z48 x31
  obtain ⟨MB, hMB⟩ : ∃ MB, MB = M := ⟨_, rfl⟩
  rw [← hMB] at hW2 hF hM
  have hW : RO (fun _ _ => 0) MB M := by rw [← hMB]; exact hW2
  clear hW2
  have LP191 : ∀ (dd : Nat) (k : Nat) (M : Mem), 12 - k = dd → (k ≤ 12) → (RO (ov (fun _ _ => 0) 16 0 (k) (fun _ => -9)) MB M) → AW mX12_init rmX12_init (fun r' M' => r' = none ∧ (fun M => Fa 25 M0 M ∧ M.1 = 49 ∧ RW τI M) M') 191 [some (.ref 25), some (.int (nI k))] [] M (0 + 1 + 1 + 1 + 1 + 1 + 1 + 1 + 1 + 1 + 1 + 1 + 1 + 1 + 1 + 1 + 1 + 1 + 1 + 1 + 1 + 1 + 1 + 1) (0 + 12 + 12 + 192 + 32 + 25 + 16 + 16 + 6 + 6 + 12 + 12 + 12 + 12 + 12 + 12 + 300 + 9 + 9 + 9 + 4 + 4 + 240 + 60) := by
    intro dd
    induction dd using Nat.strongRecOn with
    | _ dd ih191 =>
      intro k M hdd hk hW
      refine aw_iload1 191 dX12_init_191 ?_
      refine aw_bipush 192 12 dX12_init_192 (by decide) ?_
      refine aw_icmp_geN 194 211 (k) (12) dX12_init_194 (by decide) rfl rfl (by omega) (by omega) (fun h194 => ?_) (fun h194 => ?_)
      · have he : k = 12 := by omega
        subst he
        refine aw_ic0 211 dX12_init_211 ?_
        refine aw_istore1 212 dX12_init_212 rfl ?_
        have LP213 : ∀ (dd : Nat) (k : Nat) (M : Mem), 4 - k = dd → (k ≤ 4) → (RO (ov (ov (fun _ _ => 0) 16 0 (12) (fun _ => -9)) 28 0 (k) (fun _ => -1)) MB M) → AW mX12_init rmX12_init (fun r' M' => r' = none ∧ (fun M => Fa 25 M0 M ∧ M.1 = 49 ∧ RW τI M) M') 213 [some (.ref 25), some (.int (nI k))] [] M (0 + 1 + 1 + 1 + 1 + 1 + 1 + 1 + 1 + 1 + 1 + 1 + 1 + 1 + 1 + 1 + 1 + 1 + 1 + 1 + 1 + 1 + 1 + 1) (0 + 12 + 12 + 192 + 32 + 25 + 16 + 16 + 6 + 6 + 12 + 12 + 12 + 12 + 12 + 12 + 300 + 9 + 9 + 9 + 4 + 4 + 240 + 60) := by
          intro dd
          induction dd using Nat.strongRecOn with
          | _ dd ih213 =>
            intro k M hdd hk hW
            refine aw_iload1 213 dX12_init_213 ?_
            refine aw_ic4 214 dX12_init_214 ?_
            refine aw_icmp_geN 215 231 (k) (4) dX12_init_215 (by decide) rfl rfl (by omega) (by omega) (fun h215 => ?_) (fun h215 => ?_)
            · have he : k = 4 := by omega
              subst he
              refine aw_vret 231 dX12_init_231 rfl (by decide) (by decide) ?_
              refine ⟨rfl, ?_, hW.2.1.trans hM, hW.1⟩
              intro b hb
              exact ⟨(congrFun hW.2.2.1 b).trans (hF b hb).1, (hW.2.2.2 b (by omega)).trans (hF b hb).2⟩
            · refine aw_aload0 218 dX12_init_218 ?_
              refine rw_ga 219 28 dX12_init_219 ckF_RX12_67_12 (by decide) (by decide) hW ?_
              refine aw_iload1 222 dX12_init_222 ?_
              refine aw_icm1 223 dX12_init_223 ?_
              refine rw_st 224 28 k dX12_init_224 hW rfl (show k < 4 by omega) (fun M hW => ?_)
              rw [ov_up (by omega) rfl] at hW
              refine aw_iinc1 225 (nI (k + 1)) dX12_init_225 (nI_1 _) rfl ?_
              refine aw_goto 228 213 dX12_init_228 (by decide) ?_
              exact ih213 _ (by omega) (k + 1) M rfl (by omega) hW
        exact LP213 _ 0 M rfl (by omega) (by rw [ov_nil]; exact hW)
      · refine aw_aload0 197 dX12_init_197 ?_
        refine rw_ga 198 16 dX12_init_198 ckF_RX12_37_12 (by decide) (by decide) hW ?_
        refine aw_iload1 201 dX12_init_201 ?_
        refine aw_bipush 202 (-9) dX12_init_202 (by decide) ?_
        refine rw_st 204 16 k dX12_init_204 hW rfl (show k < 12 by omega) (fun M hW => ?_)
        rw [ov_up (by omega) rfl] at hW
        refine aw_iinc1 205 (nI (k + 1)) dX12_init_205 (nI_1 _) rfl ?_
        refine aw_goto 208 191 dX12_init_208 (by decide) ?_
        exact ih191 _ (by omega) (k + 1) M rfl (by omega) hW
  exact LP191 _ 0 M rfl (by omega) (by rw [ov_nil]; exact hW)

theorem GD_I : GD τI := by
  have n1 : nP τI = 0 := rfl
  have n2 : nL τI = 0 := rfl
  have n3 : nK τI = 0 := rfl
  refine ⟨⟨⟨by rw [n1]; decide, rfl⟩, fun p hp => by rw [n1] at hp; omega⟩, ⟨by rw [n2]; decide, rfl⟩, fun k hk => Or.inl ?_, fun p hp => by rw [n1] at hp; omega, ⟨⟨by rw [n3]; decide, rfl⟩, fun k hk => by rw [n3] at hk; omega⟩, fun p hp => by rw [n1] at hp; omega, by decide, fun k hk => by rw [n3] at hk; omega, fun p _ hp => ?_⟩
  · exact ov_in (by omega)
  · show ov (fun _ _ => 0) 16 0 12 (fun _ => -9) 16 p = -9
    exact ov_in (by omega)
theorem CW_I {M M' : Mem} (h : INI M) (h1 : M.2.1 1 = (20, 0)) (f : Fa 25 M M') (hM : 49 ≤ M'.1) : CW τI (fun _ _ => 0) M' := by
  obtain ⟨-, hx, ⟨k3, k4, k5, k6, hs⟩, ⟨t1, t2, w, hh, g, t3⟩, tv, sv⟩ := h
  have e := fun b (hb : b < 25) => f b hb
  refine ⟨GD_I, hM, ?_, ?_, ?_, ?_, fun k hk => ⟨0, 0, 0, fun _ => 0, (sv k hk).fa f (by omega), fun _ => rfl, fun q => absurd (show τI 28 k < 0 by rw [show τI 28 k = -1 from ov_in (by omega)]; decide) q⟩, fun p hp => absurd hp (Nat.not_lt_zero _), fun p hp => absurd hp (Nat.not_lt_zero _), fun p hp => absurd hp (Nat.not_lt_zero _), fun p hp => absurd hp (Nat.not_lt_zero _)⟩
  · unfold XO
    rw [(e 2 (by decide)).1, (e 2 (by decide)).2]
    exact hx
  · unfold AXS
    rw [(e 1 (by decide)).1, (e 3 (by decide)).1, (e 4 (by decide)).1, (e 5 (by decide)).1, (e 6 (by decide)).1, (e 6 (by decide)).2]
    exact ⟨h1, k3, k4, k5, k6, hs⟩
  · refine ⟨?_, ?_, w, hh, g, ?_⟩
    · unfold TRE
      rw [(e 7 (by decide)).1, (e 7 (by decide)).2, (e 8 (by decide)).1]
      exact t1
    · unfold RK
      rw [(e 9 (by decide)).1, (e 9 (by decide)).2, (e 10 (by decide)).1, (e 11 (by decide)).1]
      exact t2
    · unfold WKS
      rw [(e 12 (by decide)).1, (e 12 (by decide)).2, (e 15 (by decide)).1]
      exact ⟨t3.1, t3.2.1, t3.2.2.1, t3.2.2.2.1, t3.2.2.2.2.fa f (by decide)⟩
  · unfold TV
    rw [(e 16 (by decide)).1, (e 16 (by decide)).2]
    exact tv

