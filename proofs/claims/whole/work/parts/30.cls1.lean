/-! the class: statics, a picture read (gen/cls1.py) -/
def PV (M : Mem) (a : Nat) (n w h : Int32) (g : Nat → Int32) (q : Value) : Prop := M.2.1 a = (3, 5) ∧ M.2.2 a 0 = .int n ∧ M.2.2 a 1 = .ref (a + 1) ∧ M.2.2 a 2 = .int w ∧ M.2.2 a 3 = .int h ∧ M.2.2 a 4 = q ∧ AR M (a + 1) 16 g
theorem i32_le {a b : Int32} {x y : Int} (ha : a.toInt = x) (hb : b.toInt = y) : a ≤ b ↔ x ≤ y := by rw [Int32.le_iff_toInt_le, ha, hb]

def rmX11_isIn : Room := { frames := 0, cells := 0, slots := 0, locals := 0 }
set_option maxHeartbeats 4000000 in
set_option maxRecDepth 100000 in
theorem c_X11_isIn {v l h : Int32} : SD mX11_isIn rmX11_isIn [.int v, .int l, .int h] (some (.int (bi (l ≤ v ∧ v ≤ h)))) := by
  intro M
  refine am_of rfl rfl (ls := [some (.int v), some (.int l), some (.int h)]) rfl ?_
  refine aw_iload0 0 dX11_isIn_0 ?_
  refine aw_iload1 1 dX11_isIn_1 ?_
  refine aw_icmp_lt 2 14 dX11_isIn_2 (by decide) (fun h2 => ?_) (fun h2 => ?_)
  · refine aw_ic0 14 dX11_isIn_14 ?_
    refine aw_zret 15 dX11_isIn_15 rfl (by first | rfl | exact bi_nar | decide) (Nat.zero_le _) (Nat.zero_le _) ?_
    refine ⟨?_, rfl⟩
    first
      | (rw [bi_t (And.intro (Int32.not_lt.mp h2) (Int32.not_lt.mp h7))]; done)
      | (rw [bi_f (nl (Int32.not_le.mpr h2))]; done)
      | (rw [bi_f (nr (Int32.not_le.mpr h7))]; done)
  · refine aw_iload0 5 dX11_isIn_5 ?_
    refine aw_iload2 6 dX11_isIn_6 ?_
    refine aw_icmp_gt 7 14 dX11_isIn_7 (by decide) (fun h7 => ?_) (fun h7 => ?_)
    · refine aw_ic0 14 dX11_isIn_14 ?_
      refine aw_zret 15 dX11_isIn_15 rfl (by first | rfl | exact bi_nar | decide) (Nat.zero_le _) (Nat.zero_le _) ?_
      refine ⟨?_, rfl⟩
      first
        | (rw [bi_t (And.intro (Int32.not_lt.mp h2) (Int32.not_lt.mp h7))]; done)
        | (rw [bi_f (nl (Int32.not_le.mpr h2))]; done)
        | (rw [bi_f (nr (Int32.not_le.mpr h7))]; done)
    · refine aw_ic1 10 dX11_isIn_10 ?_
      refine aw_goto 11 15 dX11_isIn_11 (by decide) ?_
      refine aw_zret 15 dX11_isIn_15 rfl (by first | rfl | exact bi_nar | decide) (Nat.zero_le _) (Nat.zero_le _) ?_
      refine ⟨?_, rfl⟩
      first
        | (rw [bi_t (And.intro (Int32.not_lt.mp h2) (Int32.not_lt.mp h7))]; done)
        | (rw [bi_f (nl (Int32.not_le.mpr h2))]; done)
        | (rw [bi_f (nr (Int32.not_le.mpr h7))]; done)

theorem bi_iff {a b : Prop} [Decidable a] [Decidable b] (h : a ↔ b) : bi a = bi b := by
  unfold bi
  by_cases ha : a
  · rw [if_pos ha, if_pos (h.mp ha)]
  · rw [if_neg ha, if_neg (fun q => ha (h.mpr q))]
theorem c_isInZ {v L H : Int32} (l h : Int) (hl : L.toInt = l) (hh : H.toInt = h) : SD mX11_isIn rmX11_isIn [.int v, .int L, .int H] (some (.int (bi (irg v l h)))) := by
  have := c_X11_isIn (v := v) (l := L) (h := H)
  rwa [bi_iff (b := irg v l h) (and_congr (i32_le hl rfl) (i32_le rfl hh))] at this

def rmX11_isLane : Room := { frames := 1, cells := 0, slots := 0, locals := 22 }
set_option maxHeartbeats 4000000 in
set_option maxRecDepth 100000 in
theorem c_X11_isLane {v : Int32} : SD mX11_isLane rmX11_isLane [.int v] (some (.int (bi (irg v 0 2)))) := by
  intro M
  refine am_of rfl rfl (ls := [some (.int v)]) rfl ?_
  refine aw_iload0 0 dX11_isLane_0 ?_
  refine aw_ic0 1 dX11_isLane_1 ?_
  refine aw_ic2 2 dX11_isLane_2 ?_
  refine cr_s1 3 dX11_isLane_3 (cr_sd (c_isInZ (0) (2) (by decide) (by decide))) ckS_RX11_72 cd_X11_isIn rfl (Nat.le_of_ble_eq_true rfl) ⟨⟨by decide, by decide⟩, by decide, by decide⟩ rfl ?_
  refine aw_zret 6 dX11_isLane_6 rfl (by first | rfl | exact bi_nar | decide) (Nat.zero_le _) (Nat.zero_le _) ?_
  exact ⟨rfl, rfl⟩

def rmX11_isHour : Room := { frames := 1, cells := 0, slots := 0, locals := 22 }
set_option maxHeartbeats 4000000 in
set_option maxRecDepth 100000 in
theorem c_X11_isHour {v : Int32} : SD mX11_isHour rmX11_isHour [.int v] (some (.int (bi (irg v 0 999)))) := by
  intro M
  refine am_of rfl rfl (ls := [some (.int v)]) rfl ?_
  refine aw_iload0 0 dX11_isHour_0 ?_
  refine aw_ic0 1 dX11_isHour_1 ?_
  refine aw_sipush 2 999 dX11_isHour_2 (by decide) ?_
  refine cr_s1 5 dX11_isHour_5 (cr_sd (c_isInZ (0) (999) (by decide) (by decide))) ckS_RX11_72 cd_X11_isIn rfl (Nat.le_of_ble_eq_true rfl) ⟨⟨by decide, by decide⟩, by decide, by decide⟩ rfl ?_
  refine aw_zret 8 dX11_isHour_8 rfl (by first | rfl | exact bi_nar | decide) (Nat.zero_le _) (Nat.zero_le _) ?_
  exact ⟨rfl, rfl⟩

def rmX11_isPlace : Room := { frames := 1, cells := 0, slots := 0, locals := 22 }
set_option maxHeartbeats 4000000 in
set_option maxRecDepth 100000 in
theorem c_X11_isPlace {v : Int32} : SD mX11_isPlace rmX11_isPlace [.int v] (some (.int (bi (irg v 0 15)))) := by
  intro M
  refine am_of rfl rfl (ls := [some (.int v)]) rfl ?_
  refine aw_iload0 0 dX11_isPlace_0 ?_
  refine aw_ic0 1 dX11_isPlace_1 ?_
  refine aw_bipush 2 15 dX11_isPlace_2 (by decide) ?_
  refine cr_s1 4 dX11_isPlace_4 (cr_sd (c_isInZ (0) (15) (by decide) (by decide))) ckS_RX11_72 cd_X11_isIn rfl (Nat.le_of_ble_eq_true rfl) ⟨⟨by decide, by decide⟩, by decide, by decide⟩ rfl ?_
  refine aw_zret 7 dX11_isPlace_7 rfl (by first | rfl | exact bi_nar | decide) (Nat.zero_le _) (Nat.zero_le _) ?_
  exact ⟨rfl, rfl⟩

def rmX11_isMark : Room := { frames := 1, cells := 0, slots := 0, locals := 22 }
set_option maxHeartbeats 4000000 in
set_option maxRecDepth 100000 in
theorem c_X11_isMark {v : Int32} : SD mX11_isMark rmX11_isMark [.int v] (some (.int (bi (irg v 0 255)))) := by
  intro M
  refine am_of rfl rfl (ls := [some (.int v)]) rfl ?_
  refine aw_iload0 0 dX11_isMark_0 ?_
  refine aw_ic0 1 dX11_isMark_1 ?_
  refine aw_sipush 2 255 dX11_isMark_2 (by decide) ?_
  refine cr_s1 5 dX11_isMark_5 (cr_sd (c_isInZ (0) (255) (by decide) (by decide))) ckS_RX11_72 cd_X11_isIn rfl (Nat.le_of_ble_eq_true rfl) ⟨⟨by decide, by decide⟩, by decide, by decide⟩ rfl ?_
  refine aw_zret 8 dX11_isMark_8 rfl (by first | rfl | exact bi_nar | decide) (Nat.zero_le _) (Nat.zero_le _) ?_
  exact ⟨rfl, rfl⟩

def rmX9_above : Room := { frames := 0, cells := 0, slots := 0, locals := 0 }
set_option maxHeartbeats 4000000 in
set_option maxRecDepth 100000 in
theorem c_X9_above {l r : Int32} : SD mX9_above rmX9_above [.int l, .int r] (some (.int (abv l r))) := by
  intro M
  refine am_of rfl rfl (ls := [some (.int l), some (.int r)]) rfl ?_
  refine aw_bipush 0 31 dX9_above_0 (by decide) ?_
  refine aw_iload0 2 dX9_above_2 ?_
  refine aw_imul 3 dX9_above_3 ?_
  refine aw_bipush 4 17 dX9_above_4 (by decide) ?_
  refine aw_iload1 6 dX9_above_6 ?_
  refine aw_imul 7 dX9_above_7 ?_
  refine aw_iadd 8 dX9_above_8 ?_
  refine aw_ic5 9 dX9_above_9 ?_
  refine aw_iadd 10 dX9_above_10 ?_
  refine aw_sipush 11 9973 dX9_above_11 (by decide) ?_
  refine aw_irem 14 dX9_above_14 (by decide) ?_
  refine aw_iret 15 dX9_above_15 rfl (Nat.zero_le _) (Nat.zero_le _) ?_
  exact ⟨rfl, rfl⟩

def rmX3_has : Room := { frames := 2, cells := 0, slots := 0, locals := 42 }
set_option maxHeartbeats 4000000 in
set_option maxRecDepth 100000 in
theorem c_X3_has {M : Mem} {a : Nat} {n w h : Int32} {g : Nat → Int32} {q : Value} {k : Nat} (hP : PV M a n w h g q) (hk : k < 16) : CR mX3_has rmX3_has [.ref a, .int (nI k)] M (some (.int (bi (¬ g k = -1)))) := by
  refine am_of rfl rfl (ls := [some (.ref a), some (.int (nI k))]) rfl ?_
  have hik : irg (nI k) 0 15 := irg_nI (b := 15) (by decide) (by omega)
  refine aw_iload1 0 dX3_has_0 ?_
  refine cr_sn1 1 dX3_has_1 (cr_sd c_X11_isPlace) ckS_RX3_47 cd_X11_isPlace rfl (Nat.le_of_ble_eq_true rfl) ⟨⟨by decide, by decide⟩, by decide, by decide⟩ rfl ?_
  refine aw_ifeq_b 4 21 dX3_has_4 (by decide) (fun h4 => ?_) (fun h4 => ?_)
  · exact absurd hik h4
  · refine aw_aload0 7 dX3_has_7 ?_
    refine aw_get 8 dX3_has_8 ckF_RX3_9_3 hP.1 hP.2.2.1 ?_
    refine aw_iload1 11 dX3_has_11 ?_
    refine ar_ld 12 (k) dX3_has_12 hP.2.2.2.2.2.2 rfl (show k < 16 by omega) (by decide) ?_
    refine aw_icm1 13 dX3_has_13 ?_
    refine aw_icmp_eq 14 21 dX3_has_14 (by decide) (fun h14 => ?_) (fun h14 => ?_)
    · refine aw_ic0 21 dX3_has_21 ?_
      refine aw_zret 22 dX3_has_22 rfl (by first | rfl | exact bi_nar | decide) (Nat.zero_le _) (Nat.zero_le _) ?_
      refine ⟨?_, rfl⟩
      first
        | (rw [bi_f (nn h14)]; done)
        | (rw [bi_t h14]; done)
    · refine aw_ic1 17 dX3_has_17 ?_
      refine aw_goto 18 22 dX3_has_18 (by decide) ?_
      refine aw_zret 22 dX3_has_22 rfl (by first | rfl | exact bi_nar | decide) (Nat.zero_le _) (Nat.zero_le _) ?_
      refine ⟨?_, rfl⟩
      first
        | (rw [bi_f (nn h14)]; done)
        | (rw [bi_t h14]; done)

set_option maxHeartbeats 4000000 in
set_option maxRecDepth 100000 in
theorem n_X3_has {M : Mem} {a : Nat} {n w h : Int32} {g : Nat → Int32} {q : Value} {j : Int32} (hP : PV M a n w h g q) (hno : ¬ irg j 0 15) : CR mX3_has rmX3_has [.ref a, .int j] M (some (.int 0)) := by
  refine am_of rfl rfl (ls := [some (.ref a), some (.int j)]) rfl ?_
  refine aw_iload1 0 dX3_has_0 ?_
  refine cr_sn1 1 dX3_has_1 (cr_sd c_X11_isPlace) ckS_RX3_47 cd_X11_isPlace rfl (Nat.le_of_ble_eq_true rfl) ⟨⟨by decide, by decide⟩, by decide, by decide⟩ rfl ?_
  refine aw_ifeq_b 4 21 dX3_has_4 (by decide) (fun h4 => ?_) (fun h4 => ?_)
  · refine aw_ic0 21 dX3_has_21 ?_
    refine aw_zret 22 dX3_has_22 rfl (by first | rfl | exact bi_nar | decide) (Nat.zero_le _) (Nat.zero_le _) ?_
    exact ⟨rfl, rfl⟩
  · exact absurd h4 hno

def rmX3_tellsBit : Room := { frames := 0, cells := 0, slots := 0, locals := 0 }
set_option maxHeartbeats 4000000 in
set_option maxRecDepth 100000 in
theorem c_X3_tellsBit {M : Mem} {a : Nat} {n w h : Int32} {g : Nat → Int32} {q : Value} {k b : Nat} {m : Int32} (hP : PV M a n w h g q) (hk : k < 16) : CR mX3_tellsBit rmX3_tellsBit [.ref a, .int (nI k), .int m, .int (nI b)] M (some (.int (bi (g k &&& 1 = (m >>> (nI b &&& 31)) &&& 1)))) := by
  refine am_of rfl rfl (ls := [some (.ref a), some (.int (nI k)), some (.int m), some (.int (nI b))]) rfl ?_
  refine aw_aload0 0 dX3_tellsBit_0 ?_
  refine aw_get 1 dX3_tellsBit_1 ckF_RX3_9_3 hP.1 hP.2.2.1 ?_
  refine aw_iload1 4 dX3_tellsBit_4 ?_
  refine ar_ld 5 (k) dX3_tellsBit_5 hP.2.2.2.2.2.2 rfl (show k < 16 by omega) (by decide) ?_
  refine aw_ic1 6 dX3_tellsBit_6 ?_
  refine aw_iand 7 dX3_tellsBit_7 ?_
  refine aw_iload2 8 dX3_tellsBit_8 ?_
  refine aw_iload3 9 dX3_tellsBit_9 ?_
  refine aw_ishr 10 dX3_tellsBit_10 ?_
  refine aw_ic1 11 dX3_tellsBit_11 ?_
  refine aw_iand 12 dX3_tellsBit_12 ?_
  refine aw_icmp_ne 13 20 dX3_tellsBit_13 (by decide) (fun h13 => ?_) (fun h13 => ?_)
  · refine aw_ic0 20 dX3_tellsBit_20 ?_
    refine aw_zret 21 dX3_tellsBit_21 rfl (by first | rfl | exact bi_nar | decide) (Nat.zero_le _) (Nat.zero_le _) ?_
    refine ⟨?_, rfl⟩
    first
      | (rw [bi_t h13]; done)
      | (rw [bi_f h13]; done)
  · refine aw_ic1 16 dX3_tellsBit_16 ?_
    refine aw_goto 17 21 dX3_tellsBit_17 (by decide) ?_
    refine aw_zret 21 dX3_tellsBit_21 rfl (by first | rfl | exact bi_nar | decide) (Nat.zero_le _) (Nat.zero_le _) ?_
    refine ⟨?_, rfl⟩
    first
      | (rw [bi_t h13]; done)
      | (rw [bi_f h13]; done)

def csm (g : Nat → Int32) : Nat → Int32
  | 0 => 0
  | k + 1 => csm g k + (if g k < 0 then 0 else g k)
def clt (g : Nat → Int32) : Nat → Int32
  | 0 => 99
  | k + 1 => if g k = -1 then clt g k else if g k < clt g k then g k else clt g k
def cgt (g : Nat → Int32) : Nat → Int32
  | 0 => 0
  | k + 1 => if cgt g k < g k then g k else cgt g k
theorem clt_s {g : Nat → Int32} {k : Nat} : clt g (k + 1) = if g k = -1 then clt g k else if g k < clt g k then g k else clt g k := rfl

def rmX3_sum : Room := { frames := 1, cells := 0, slots := 0, locals := 21 }
set_option maxHeartbeats 4000000 in
set_option maxRecDepth 100000 in
theorem c_X3_sum {M : Mem} {a : Nat} {n w h : Int32} {g : Nat → Int32} {q : Value} (hP : PV M a n w h g q) : CR mX3_sum rmX3_sum [.ref a] M (some (.int (csm g 16))) := by
  refine am_of rfl rfl (ls := [some (.ref a), none, none]) rfl ?_
  refine aw_ic0 0 dX3_sum_0 ?_
  refine aw_istore1 1 dX3_sum_1 rfl ?_
  refine aw_ic0 2 dX3_sum_2 ?_
  refine aw_istore2 3 dX3_sum_3 rfl ?_
  have LP4 : ∀ (dd : Nat) (k : Nat), 16 - k = dd → (k ≤ 16) → AW mX3_sum rmX3_sum (fun r' M' => r' = (some (.int (csm g 16))) ∧ M' = M) 4 [some (.ref a), some (.int (csm g k)), some (.int (nI k))] [] M 0 0 := by
    intro dd
    induction dd using Nat.strongRecOn with
    | _ dd ih4 =>
      intro k hdd hk
      refine aw_iload2 4 dX3_sum_4 ?_
      refine aw_bipush 5 16 dX3_sum_5 (by decide) ?_
      refine aw_icmp_geN 7 29 (k) (16) dX3_sum_7 (by decide) rfl rfl (by omega) (by omega) (fun h7 => ?_) (fun h7 => ?_)
      · have he : k = 16 := by omega
        subst he
        refine aw_iload1 29 dX3_sum_29 ?_
        refine aw_iret 30 dX3_sum_30 rfl (Nat.zero_le _) (Nat.zero_le _) ?_
        exact ⟨rfl, rfl⟩
      · refine aw_iload1 10 dX3_sum_10 ?_
        refine aw_aload0 11 dX3_sum_11 ?_
        refine aw_get 12 dX3_sum_12 ckF_RX3_9_3 hP.1 hP.2.2.1 ?_
        refine aw_iload2 15 dX3_sum_15 ?_
        refine ar_ld 16 (k) dX3_sum_16 hP.2.2.2.2.2.2 rfl (show k < 16 by omega) (by decide) ?_
        refine aw_ic0 17 dX3_sum_17 ?_
        refine aw_max 18 dX3_sum_18 ckM_RX3_61 (Nat.le_of_ble_eq_true rfl) (by decide) (by decide) (Nat.zero_le _) (Nat.zero_le _) ?_
        refine aw_iadd 21 dX3_sum_21 ?_
        refine aw_istore1 22 dX3_sum_22 rfl ?_
        refine aw_iinc2 23 (nI (k + 1)) dX3_sum_23 (nI_1 _) rfl ?_
        refine aw_goto 26 4 dX3_sum_26 (by decide) ?_
        exact ih4 _ (by omega) (k + 1) rfl (by omega)
  exact LP4 _ 0 rfl (by omega)

def rmX3_mean : Room := { frames := 2, cells := 0, slots := 0, locals := 43 }
set_option maxHeartbeats 4000000 in
set_option maxRecDepth 100000 in
theorem c_X3_mean {M : Mem} {a : Nat} {n w h : Int32} {g : Nat → Int32} {q : Value} {W H : Nat} (hP : PV M a n (nI W) (nI H) g q) (hW : 1 ≤ W ∧ W ≤ 4) (hH : 1 ≤ H ∧ H ≤ 4) : CR mX3_mean rmX3_mean [.ref a] M (some (.int (csm g 16 / nI (W * H)))) := by
  refine am_of rfl rfl (ls := [some (.ref a), none]) rfl ?_
  have hm := wmul hW.2 hH.2
  have hm1 : 1 ≤ W * H := Nat.mul_pos hW.1 hH.1
  refine aw_aload0 0 dX3_mean_0 ?_
  refine aw_get 1 dX3_mean_1 ckF_RX3_25_3 hP.1 hP.2.2.2.1 ?_
  refine aw_aload0 4 dX3_mean_4 ?_
  refine aw_get 5 dX3_mean_5 ckF_RX3_28_3 hP.1 hP.2.2.2.2.1 ?_
  refine aw_imulN 8 (W) (H) dX3_mean_8 rfl rfl ?_
  refine aw_istore1 9 dX3_mean_9 rfl ?_
  refine aw_iload1 10 dX3_mean_10 ?_
  refine aw_if_neN 11 18 (W * H) dX3_mean_11 (by decide) rfl (by omega) (fun h11 => ?_) (fun h11 => ?_)
  · refine aw_aload0 18 dX3_mean_18 ?_
    refine cr_v1 19 dX3_mean_19 (c_X3_sum hP) ckV_RX3_67 cd_X3_sum hP.1 vc3 rfl rfl (Nat.le_of_ble_eq_true rfl) ⟨⟨by decide, by decide⟩, by decide, by decide⟩ rfl ?_
    refine aw_iload1 22 dX3_mean_22 ?_
    refine aw_idiv 23 dX3_mean_23 (nI_ne0 hm1 (by omega)) ?_
    refine aw_iret 24 dX3_mean_24 rfl (Nat.zero_le _) (Nat.zero_le _) ?_
    exact ⟨rfl, rfl⟩
  · exact absurd h11 (by omega)

def rmX3_least : Room := { frames := 3, cells := 0, slots := 0, locals := 63 }
set_option maxHeartbeats 4000000 in
set_option maxRecDepth 100000 in
theorem c_X3_least {M : Mem} {a : Nat} {n w h : Int32} {g : Nat → Int32} {q : Value} (hP : PV M a n w h g q) : CR mX3_least rmX3_least [.ref a] M (some (.int (clt g 16))) := by
  refine am_of rfl rfl (ls := [some (.ref a), none, none]) rfl ?_
  refine aw_bipush 0 99 dX3_least_0 (by decide) ?_
  refine aw_istore1 2 dX3_least_2 rfl ?_
  refine aw_ic0 3 dX3_least_3 ?_
  refine aw_istore2 4 dX3_least_4 rfl ?_
  have LP5 : ∀ (dd : Nat) (k : Nat) (v : Int32), 16 - k = dd → (k ≤ 16) → (v = clt g k) → AW mX3_least rmX3_least (fun r' M' => r' = (some (.int (clt g 16))) ∧ M' = M) 5 [some (.ref a), some (.int v), some (.int (nI k))] [] M 0 0 := by
    intro dd
    induction dd using Nat.strongRecOn with
    | _ dd ih5 =>
      intro k v hdd hk hv
      refine aw_iload2 5 dX3_least_5 ?_
      refine aw_bipush 6 16 dX3_least_6 (by decide) ?_
      refine aw_icmp_geN 8 36 (k) (16) dX3_least_8 (by decide) rfl rfl (by omega) (by omega) (fun h8 => ?_) (fun h8 => ?_)
      · have he : k = 16 := by omega
        subst he
        subst hv
        refine aw_iload1 36 dX3_least_36 ?_
        refine aw_iret 37 dX3_least_37 rfl (Nat.zero_le _) (Nat.zero_le _) ?_
        exact ⟨rfl, rfl⟩
      · refine aw_aload0 11 dX3_least_11 ?_
        refine aw_iload2 12 dX3_least_12 ?_
        refine cr_v1 13 dX3_least_13 (c_X3_has hP (k := k) (by omega)) ckV_RX3_71 cd_X3_has hP.1 vc3 rfl rfl (Nat.le_of_ble_eq_true rfl) ⟨⟨by decide, by decide⟩, by decide, by decide⟩ rfl ?_
        refine aw_ifeq_b 16 30 dX3_least_16 (by decide) (fun h16 => ?_) (fun h16 => ?_)
        · refine aw_iinc2 30 (nI (k + 1)) dX3_least_30 (nI_1 _) rfl ?_
          refine aw_goto 33 5 dX3_least_33 (by decide) ?_
          exact ih5 _ (by omega) (k + 1) _ rfl (by omega) (by rw [clt_s, ← hv]; first | (rw [if_pos (Classical.not_not.mp h16)]; done) | (rw [if_neg h16]; done))
        · refine aw_iload1 19 dX3_least_19 ?_
          refine aw_aload0 20 dX3_least_20 ?_
          refine aw_get 21 dX3_least_21 ckF_RX3_9_3 hP.1 hP.2.2.1 ?_
          refine aw_iload2 24 dX3_least_24 ?_
          refine ar_ld 25 (k) dX3_least_25 hP.2.2.2.2.2.2 rfl (show k < 16 by omega) (by decide) ?_
          refine aw_min 26 dX3_least_26 ckM_RX3_74 (Nat.le_of_ble_eq_true rfl) (by decide) (by decide) (Nat.zero_le _) (Nat.zero_le _) ?_
          refine aw_istore1 29 dX3_least_29 rfl ?_
          refine aw_iinc2 30 (nI (k + 1)) dX3_least_30 (nI_1 _) rfl ?_
          refine aw_goto 33 5 dX3_least_33 (by decide) ?_
          exact ih5 _ (by omega) (k + 1) _ rfl (by omega) (by rw [clt_s, ← hv]; first | (rw [if_pos (Classical.not_not.mp h16)]; done) | (rw [if_neg h16]; done))
  exact LP5 _ 0 _ rfl (by omega) rfl

def rmX3_greatest : Room := { frames := 1, cells := 0, slots := 0, locals := 21 }
set_option maxHeartbeats 4000000 in
set_option maxRecDepth 100000 in
theorem c_X3_greatest {M : Mem} {a : Nat} {n w h : Int32} {g : Nat → Int32} {q : Value} (hP : PV M a n w h g q) : CR mX3_greatest rmX3_greatest [.ref a] M (some (.int (cgt g 16))) := by
  refine am_of rfl rfl (ls := [some (.ref a), none, none]) rfl ?_
  refine aw_ic0 0 dX3_greatest_0 ?_
  refine aw_istore1 1 dX3_greatest_1 rfl ?_
  refine aw_ic0 2 dX3_greatest_2 ?_
  refine aw_istore2 3 dX3_greatest_3 rfl ?_
  have LP4 : ∀ (dd : Nat) (k : Nat), 16 - k = dd → (k ≤ 16) → AW mX3_greatest rmX3_greatest (fun r' M' => r' = (some (.int (cgt g 16))) ∧ M' = M) 4 [some (.ref a), some (.int (cgt g k)), some (.int (nI k))] [] M 0 0 := by
    intro dd
    induction dd using Nat.strongRecOn with
    | _ dd ih4 =>
      intro k hdd hk
      refine aw_iload2 4 dX3_greatest_4 ?_
      refine aw_bipush 5 16 dX3_greatest_5 (by decide) ?_
      refine aw_icmp_geN 7 27 (k) (16) dX3_greatest_7 (by decide) rfl rfl (by omega) (by omega) (fun h7 => ?_) (fun h7 => ?_)
      · have he : k = 16 := by omega
        subst he
        refine aw_iload1 27 dX3_greatest_27 ?_
        refine aw_iret 28 dX3_greatest_28 rfl (Nat.zero_le _) (Nat.zero_le _) ?_
        exact ⟨rfl, rfl⟩
      · refine aw_iload1 10 dX3_greatest_10 ?_
        refine aw_aload0 11 dX3_greatest_11 ?_
        refine aw_get 12 dX3_greatest_12 ckF_RX3_9_3 hP.1 hP.2.2.1 ?_
        refine aw_iload2 15 dX3_greatest_15 ?_
        refine ar_ld 16 (k) dX3_greatest_16 hP.2.2.2.2.2.2 rfl (show k < 16 by omega) (by decide) ?_
        refine aw_max 17 dX3_greatest_17 ckM_RX3_61 (Nat.le_of_ble_eq_true rfl) (by decide) (by decide) (Nat.zero_le _) (Nat.zero_le _) ?_
        refine aw_istore1 20 dX3_greatest_20 rfl ?_
        refine aw_iinc2 21 (nI (k + 1)) dX3_greatest_21 (nI_1 _) rfl ?_
        refine aw_goto 24 4 dX3_greatest_24 (by decide) ?_
        exact ih4 _ (by omega) (k + 1) rfl (by omega)
  exact LP4 _ 0 rfl (by omega)

/-- how many bits agree, and how many were looked at, up to a place -/
abbrev tlB (v m : Int32) (b : Nat) : Prop := v &&& 1 = (m >>> (nI b &&& 31)) &&& 1
def agr (g : Nat → Int32) (m : Int32) : Nat → Int32 × Nat
  | 0 => (0, 0)
  | k + 1 => if 8 ≤ (agr g m k).2 ∨ g k = -1 then agr g m k else (if tlB (g k) m (agr g m k).2 then (agr g m k).1 + 1 else (agr g m k).1, (agr g m k).2 + 1)
theorem agr_s {g : Nat → Int32} {m : Int32} {k : Nat} : agr g m (k + 1) = if 8 ≤ (agr g m k).2 ∨ g k = -1 then agr g m k else (if tlB (g k) m (agr g m k).2 then (agr g m k).1 + 1 else (agr g m k).1, (agr g m k).2 + 1) := rfl
theorem agr_8 {g : Nat → Int32} {m : Int32} {k : Nat} (h : 8 ≤ (agr g m k).2) : ∀ j, k ≤ j → agr g m j = agr g m k := by
  intro j hj
  induction j with
  | zero => rw [show k = 0 by omega]
  | succ j ih =>
    by_cases hk : k = j + 1
    · rw [hk]
    · have := ih (by omega)
      rw [agr_s, this, if_pos (Or.inl h)]

def rmX3_agreement : Room := { frames := 3, cells := 0, slots := 0, locals := 63 }
set_option maxHeartbeats 4000000 in
set_option maxRecDepth 100000 in
theorem c_X3_agreement {M : Mem} {a : Nat} {n w h : Int32} {g : Nat → Int32} {q : Value} {m : Int32} (hP : PV M a n w h g q) : CR mX3_agreement rmX3_agreement [.ref a, .int m] M (some (.int (agr g m 16).1)) := by
  refine am_of rfl rfl (ls := [some (.ref a), some (.int m), none, none, none]) rfl ?_
  refine aw_ic0 0 dX3_agreement_0 ?_
  refine aw_istore2 1 dX3_agreement_1 rfl ?_
  refine aw_ic0 2 dX3_agreement_2 ?_
  refine aw_istore3 3 dX3_agreement_3 rfl ?_
  refine aw_ic0 4 dX3_agreement_4 ?_
  refine aw_istore4 5 dX3_agreement_5 rfl ?_
  have LP7 : ∀ (dd : Nat) (k b : Nat) (v : Int32), 16 - k = dd → (k ≤ 16) → (b ≤ 8) → (agr g m k = (v, b)) → AW mX3_agreement rmX3_agreement (fun r' M' => r' = (some (.int (agr g m 16).1)) ∧ M' = M) 7 [some (.ref a), some (.int m), some (.int v), some (.int (nI b)), some (.int (nI k))] [] M 0 0 := by
    intro dd
    induction dd using Nat.strongRecOn with
    | _ dd ih7 =>
      intro k b v hdd hk hb hs
      refine aw_iload4 7 dX3_agreement_7 ?_
      refine aw_bipush 9 16 dX3_agreement_9 (by decide) ?_
      refine aw_icmp_geN 11 55 (k) (16) dX3_agreement_11 (by decide) rfl rfl (by omega) (by omega) (fun h11 => ?_) (fun h11 => ?_)
      · refine aw_iload2 55 dX3_agreement_55 ?_
        refine aw_iret 56 dX3_agreement_56 rfl (Nat.zero_le _) (Nat.zero_le _) ?_
        refine ⟨?_, rfl⟩
        have h16 : agr g m 16 = (v, b) := by
          rw [← hs]
          first
            | (rw [show k = 16 by omega]; done)
            | exact agr_8 (by rw [hs]; exact h17) 16 (by omega)
        rw [h16]
      · refine aw_iload3 14 dX3_agreement_14 ?_
        refine aw_bipush 15 8 dX3_agreement_15 (by decide) ?_
        refine aw_icmp_geN 17 55 (b) (8) dX3_agreement_17 (by decide) rfl rfl (by omega) (by omega) (fun h17 => ?_) (fun h17 => ?_)
        · refine aw_iload2 55 dX3_agreement_55 ?_
          refine aw_iret 56 dX3_agreement_56 rfl (Nat.zero_le _) (Nat.zero_le _) ?_
          refine ⟨?_, rfl⟩
          have h16 : agr g m 16 = (v, b) := by
            rw [← hs]
            first
              | (rw [show k = 16 by omega]; done)
              | exact agr_8 (by rw [hs]; exact h17) 16 (by omega)
          rw [h16]
        · refine aw_aload0 20 dX3_agreement_20 ?_
          refine aw_iload4 21 dX3_agreement_21 ?_
          refine cr_v1 23 dX3_agreement_23 (c_X3_has hP (k := k) (by omega)) ckV_RX3_71 cd_X3_has hP.1 vc3 rfl rfl (Nat.le_of_ble_eq_true rfl) ⟨⟨by decide, by decide⟩, by decide, by decide⟩ rfl ?_
          refine aw_ifne_b 26 32 dX3_agreement_26 (by decide) (fun h26 => ?_) (fun h26 => ?_)
          · refine aw_aload0 32 dX3_agreement_32 ?_
            refine aw_iload4 33 dX3_agreement_33 ?_
            refine aw_iload1 35 dX3_agreement_35 ?_
            refine aw_iload3 36 dX3_agreement_36 ?_
            refine cr_v1 37 dX3_agreement_37 (c_X3_tellsBit hP (k := k) (b := b) (by omega)) ckV_RX3_77 cd_X3_tellsBit hP.1 vc3 rfl rfl (Nat.le_of_ble_eq_true rfl) ⟨⟨by decide, by decide⟩, by decide, by decide⟩ rfl ?_
            refine aw_ifeq_b 40 46 dX3_agreement_40 (by decide) (fun h40 => ?_) (fun h40 => ?_)
            · refine aw_iinc3 46 (nI (b + 1)) dX3_agreement_46 (nI_1 _) rfl ?_
              refine aw_iinc4 49 (nI (k + 1)) dX3_agreement_49 (nI_1 _) rfl ?_
              refine aw_goto 52 7 dX3_agreement_52 (by decide) ?_
              exact ih7 _ (by omega) (k + 1) _ _ rfl (by omega) (by omega) (by rw [agr_s, hs]; first | (rw [if_pos (Or.inr (Classical.not_not.mp h26))]; done) | (rw [if_neg (fun q => q.elim (fun z => absurd z (Nat.not_le.mpr h17)) h26)]; show (ite _ _ _, _) = _; rw [if_pos h40]; done) | (rw [if_neg (fun q => q.elim (fun z => absurd z (Nat.not_le.mpr h17)) h26)]; show (ite _ _ _, _) = _; rw [if_neg h40]; done))
            · refine aw_iinc2 43 (v + 1) dX3_agreement_43 rfl rfl ?_
              refine aw_iinc3 46 (nI (b + 1)) dX3_agreement_46 (nI_1 _) rfl ?_
              refine aw_iinc4 49 (nI (k + 1)) dX3_agreement_49 (nI_1 _) rfl ?_
              refine aw_goto 52 7 dX3_agreement_52 (by decide) ?_
              exact ih7 _ (by omega) (k + 1) _ _ rfl (by omega) (by omega) (by rw [agr_s, hs]; first | (rw [if_pos (Or.inr (Classical.not_not.mp h26))]; done) | (rw [if_neg (fun q => q.elim (fun z => absurd z (Nat.not_le.mpr h17)) h26)]; show (ite _ _ _, _) = _; rw [if_pos h40]; done) | (rw [if_neg (fun q => q.elim (fun z => absurd z (Nat.not_le.mpr h17)) h26)]; show (ite _ _ _, _) = _; rw [if_neg h40]; done))
          · refine aw_goto 29 49 dX3_agreement_29 (by decide) ?_
            refine aw_iinc4 49 (nI (k + 1)) dX3_agreement_49 (nI_1 _) rfl ?_
            refine aw_goto 52 7 dX3_agreement_52 (by decide) ?_
            exact ih7 _ (by omega) (k + 1) _ _ rfl (by omega) (by omega) (by rw [agr_s, hs]; first | (rw [if_pos (Or.inr (Classical.not_not.mp h26))]; done) | (rw [if_neg (fun q => q.elim (fun z => absurd z (Nat.not_le.mpr h17)) h26)]; show (ite _ _ _, _) = _; rw [if_pos h40]; done) | (rw [if_neg (fun q => q.elim (fun z => absurd z (Nat.not_le.mpr h17)) h26)]; show (ite _ _ _, _) = _; rw [if_neg h40]; done))
  exact LP7 _ 0 0 0 rfl (by omega) (by omega) rfl

