/-! the law: its loop, its start, the claim (gen/law.py; the claim's frame is kit/laws/SKELETON.whole.lean.txt) -/
theorem lm9 {n : Nat} (h : n ≤ 4608) : (nI n - 9).toInt = (n : Int) - 9 := by
  rw [i32s (by rw [nI_toInt (by omega), show (9 : Int32).toInt = 9 by decide]; omega) (by rw [nI_toInt (by omega), show (9 : Int32).toInt = 9 by decide]; omega), nI_toInt (by omega), show (9 : Int32).toInt = 9 by decide]

set_option maxHeartbeats 4000000 in
set_option maxRecDepth 100000 in
theorem law_loop {L : Nat} {xs : Nat → Int32} {Q : Option Value → Mem → Prop} (hQ : Q = fun r _ => r = some (.int 1)) (hL : L ≤ 4608) : ∀ (dd j : Nat) (σ : TT) (α : AT) (M : Mem) (cs ss : Nat), 512 - j = dd → 9 * j ≤ L → CW σ α M → RW σ M → AR M 0 L xs → cs + 2 * (512 - j) + 2 ≤ 772320 → ss + 21 * (512 - j) + 21 ≤ 6785288 → AW mL_law room_1 Q 18 [some (.ref 0), some (.ref 2), some (.ref 25), some (.int (nI (9 * j)))] [] M cs ss := by
  subst hQ
  intro dd
  induction dd using Nat.strongRecOn with
  | _ dd ih =>
    intro j σ α M cs ss hdd hj hC hW hX hcs hss
    refine aw_iload3 18 dL_law_18 ?_
    refine aw_aload0 19 dL_law_19 ?_
    refine aw_alen 20 dL_law_20 hX.1 ?_
    refine aw_bipush 21 9 dL_law_21 (by decide) ?_
    refine aw_isub 23 dL_law_23 ?_
    refine aw_icmp_gt 24 1627 dL_law_24 (by decide) (fun h24 => ?_) (fun h24 => ?_)
    · refine aw_ic1 1627 dL_law_1627 ?_
      refine aw_zret 1628 dL_law_1628 rfl rfl (by show cs ≤ 772320; omega) (by show ss ≤ 6785288; omega) rfl
    have hle : 9 * j + 9 ≤ L := by
      have q := Int32.not_lt.mp h24
      rw [Int32.le_iff_toInt_le, lm9 hL, nI_toInt (by omega)] at q
      omega
    refine aw_aload0 27 dL_law_27 ?_
    refine aw_iload3 28 dL_law_28 ?_
    refine ar_ld 29 (9 * j) dL_law_29 hX rfl (show 9 * j < L by omega) (by omega) ?_
    refine aw_bipush 30 63 dL_law_30 (by decide) ?_
    refine aw_iand 32 dL_law_32 ?_
    obtain ⟨c, hc, hce⟩ := pk_andE (xs (9 * j)) (m := 63) 6 (by decide)
    refine aw_topi (w := nI c) hce ?_
    have kk : ∀ ρ α' M' cs' ss', CW ρ α' M' → RW ρ M' → AR M' 0 L xs → cs' ≤ cs + 2 → ss' ≤ ss + 21 → AW mL_law room_1 (fun r _ => r = some (.int 1)) 1621 [some (.ref 0), some (.ref 2), some (.ref 25), some (.int (nI (9 * j)))] [] M' cs' ss' := by
      intro ρ α' M' cs' ss' hC' hW' hX' hcs' hss'
      refine aw_iinc3 1621 (nI (9 * j + 9)) dL_law_1621 (nI_add (9 * j) 9) rfl ?_
      refine aw_goto 1624 18 dL_law_1624 (by decide) ?_
      have z := ih (512 - (j + 1)) (by omega) (j + 1) ρ α' M' cs' ss' rfl (by omega) hC' hW' hX' (by omega) (by omega)
      rw [show 9 * (j + 1) = 9 * j + 9 by omega] at z
      exact z
    rcases (show c = 0 ∨ c = 1 ∨ c = 2 ∨ c = 3 ∨ c = 4 ∨ c = 5 ∨ c = 6 ∨ c = 7 ∨ c = 8 ∨ c = 9 ∨ c = 10 ∨ c = 11 ∨ c = 12 ∨ c = 13 ∨ c = 14 ∨ c = 15 ∨ c = 16 ∨ c = 17 ∨ c = 18 ∨ c = 19 ∨ c = 20 ∨ c = 21 ∨ c = 22 ∨ c = 23 ∨ c = 24 ∨ c = 25 ∨ c = 26 ∨ c = 27 ∨ c = 28 ∨ c = 29 ∨ c = 30 ∨ c = 31 ∨ c = 32 ∨ c = 33 ∨ c = 34 ∨ c = 35 ∨ c = 36 ∨ c = 37 ∨ c = 38 ∨ 39 ≤ c by omega) with rfl | rfl | rfl | rfl | rfl | rfl | rfl | rfl | rfl | rfl | rfl | rfl | rfl | rfl | rfl | rfl | rfl | rfl | rfl | rfl | rfl | rfl | rfl | rfl | rfl | rfl | rfl | rfl | rfl | rfl | rfl | rfl | rfl | rfl | rfl | rfl | rfl | rfl | rfl | hge
    · exact aw_tabIn 33 204 dL_law_33 (by decide) (by decide) rfl (by decide) (k_picture hC hW hX hL hle (by omega) (by omega) kk)
    · exact aw_tabIn 33 267 dL_law_33 (by decide) (by decide) rfl (by decide) (k_ofPicture hC hW hX hL hle (by omega) (by omega) kk)
    · exact aw_tabIn 33 300 dL_law_33 (by decide) (by decide) rfl (by decide) (k_alter hC hW hX hL hle (by omega) (by omega) kk)
    · exact aw_tabIn 33 343 dL_law_33 (by decide) (by decide) rfl (by decide) (k_lens hC hW hX hL hle (by omega) (by omega) kk)
    · exact aw_tabIn 33 366 dL_law_33 (by decide) (by decide) rfl (by decide) (k_steal hC hW hX hL hle (by omega) (by omega) kk)
    · exact aw_tabIn 33 399 dL_law_33 (by decide) (by decide) rfl (by decide) (k_take hC hW hX hL hle (by omega) (by omega) kk)
    · exact aw_tabIn 33 442 dL_law_33 (by decide) (by decide) rfl (by decide) (k_hush hC hW hX hL hle (by omega) (by omega) kk)
    · exact aw_tabIn 33 495 dL_law_33 (by decide) (by decide) rfl (by decide) (k_change hC hW hX hL hle (by omega) (by omega) kk)
    · exact aw_tabIn 33 594 dL_law_33 (by decide) (by decide) rfl (by decide) (k_act hC hW hX hL hle (by omega) (by omega) kk)
    · exact aw_tabIn 33 657 dL_law_33 (by decide) (by decide) rfl (by decide) (k_tear hC hW hX hL hle (by omega) (by omega) kk)
    · exact aw_tabIn 33 680 dL_law_33 (by decide) (by decide) rfl (by decide) (k_line hC hW hX hL hle (by omega) (by omega) kk)
    · exact aw_tabIn 33 713 dL_law_33 (by decide) (by decide) rfl (by decide) (k_speaks hC hW hX hL hle (by omega) (by omega) kk)
    · exact aw_tabIn 33 736 dL_law_33 (by decide) (by decide) rfl (by decide) (k_play hC hW hX hL hle (by omega) (by omega) kk)
    · exact aw_tabIn 33 759 dL_law_33 (by decide) (by decide) rfl (by decide) (k_within hC hW hX hL hle (by omega) (by omega) kk)
    · exact aw_tabIn 33 782 dL_law_33 (by decide) (by decide) rfl (by decide) (k_way hC hW hX hL hle (by omega) (by omega) kk)
    · exact aw_tabIn 33 815 dL_law_33 (by decide) (by decide) rfl (by decide) (k_doubt hC hW hX hL hle (by omega) (by omega) kk)
    · exact aw_tabIn 33 838 dL_law_33 (by decide) (by decide) rfl (by decide) (k_whole hC hW hX hL hle (by omega) (by omega) kk)
    · exact aw_tabIn 33 861 dL_law_33 (by decide) (by decide) rfl (by decide) (k_proof hC hW hX hL hle (by omega) (by omega) kk)
    · exact aw_tabIn 33 904 dL_law_33 (by decide) (by decide) rfl (by decide) (k_proves hC hW hX hL hle (by omega) (by omega) kk)
    · exact aw_tabIn 33 979 dL_law_33 (by decide) (by decide) rfl (by decide) (k_hide hC hW hX hL hle (by omega) (by omega) kk)
    · exact aw_tabIn 33 1012 dL_law_33 (by decide) (by decide) rfl (by decide) (k_found hC hW hX hL hle (by omega) (by omega) kk)
    · exact aw_tabIn 33 1045 dL_law_33 (by decide) (by decide) rfl (by decide) (k_falsely hC hW hX hL hle (by omega) (by omega) kk)
    · exact aw_tabIn 33 1089 dL_law_33 (by decide) (by decide) rfl (by decide) (k_like hC hW hX hL hle (by omega) (by omega) kk)
    · exact aw_tabIn 33 1122 dL_law_33 (by decide) (by decide) rfl (by decide) (k_nearest hC hW hX hL hle (by omega) (by omega) kk)
    · exact aw_tabIn 33 1155 dL_law_33 (by decide) (by decide) rfl (by decide) (k_coarse hC hW hX hL hle (by omega) (by omega) kk)
    · exact aw_tabIn 33 1188 dL_law_33 (by decide) (by decide) rfl (by decide) (k_look hC hW hX hL hle (by omega) (by omega) kk)
    · exact aw_tabIn 33 1231 dL_law_33 (by decide) (by decide) rfl (by decide) (k_best hC hW hX hL hle (by omega) (by omega) kk)
    · exact aw_tabIn 33 1264 dL_law_33 (by decide) (by decide) rfl (by decide) (k_doubtful hC hW hX hL hle (by omega) (by omega) kk)
    · exact aw_tabIn 33 1277 dL_law_33 (by decide) (by decide) rfl (by decide) (k_sheet hC hW hX hL hle (by omega) (by omega) kk)
    · exact aw_tabIn 33 1320 dL_law_33 (by decide) (by decide) rfl (by decide) (k_lose hC hW hX hL hle (by omega) (by omega) kk)
    · exact aw_tabIn 33 1343 dL_law_33 (by decide) (by decide) rfl (by decide) (k_put hC hW hX hL hle (by omega) (by omega) kk)
    · exact aw_tabIn 33 1386 dL_law_33 (by decide) (by decide) rfl (by decide) (k_cell hC hW hX hL hle (by omega) (by omega) kk)
    · exact aw_tabIn 33 1430 dL_law_33 (by decide) (by decide) rfl (by decide) (k_copy hC hW hX hL hle (by omega) (by omega) kk)
    · exact aw_tabIn 33 1493 dL_law_33 (by decide) (by decide) rfl (by decide) (k_tell hC hW hX hL hle (by omega) (by omega) kk)
    · exact aw_tabIn 33 1516 dL_law_33 (by decide) (by decide) rfl (by decide) (k_show hC hW hX hL hle (by omega) (by omega) kk)
    · exact aw_tabIn 33 1539 dL_law_33 (by decide) (by decide) rfl (by decide) (k_as hC hW hX hL hle (by omega) (by omega) kk)
    · exact aw_tabIn 33 1572 dL_law_33 (by decide) (by decide) rfl (by decide) (k_trace hC hW hX hL hle (by omega) (by omega) kk)
    · exact aw_tabIn 33 1585 dL_law_33 (by decide) (by decide) rfl (by decide) (k_fault hC hW hX hL hle (by omega) (by omega) kk)
    · exact aw_tabIn 33 1598 dL_law_33 (by decide) (by decide) rfl (by decide) (k_many hC hW hX hL hle (by omega) (by omega) kk)
    · exact aw_tabOut 33 1621 dL_law_33 (Or.inr (by rw [nI_toInt (by omega)]; omega)) (by decide) (kk σ α M cs ss hC hW hX (by omega) (by omega))

set_option maxHeartbeats 4000000 in
set_option maxRecDepth 100000 in
theorem law_body {L : Nat} {xs : Nat → Int32} {M : Mem} (hL : L ≤ 4608) (hM : M.1 = 2) (hX : AR M 0 L xs) (h1 : M.2.1 1 = (20, 0)) : AW mL_law room_1 (fun r _ => r = some (.int 1)) 0 [some (.ref 0), none, none, none] [] M 0 0 := by
  suffices HH : ∀ M, (M.1 = 2) → (AR M 0 L xs) → (M.2.1 1 = (20, 0)) → AW mL_law room_1 (fun r _ => r = some (.int 1)) 0 [some (.ref 0), none, none, none] [] M 0 0 from HH M hM hX h1
  intro M hM hX h1
  refine na_obj 0 13 (2) dL_law_0 ckN_RL_7 rfl hM (by decide) (by decide) (fun M hd => ?_)
  have k2 := hd.2.1
  have x8 : M.2.2 2 8 = .int 0 := by rw [hd.2.2.1]; rfl
  have x9 : M.2.2 2 9 = .int 0 := by rw [hd.2.2.1]; rfl
  have x10 : M.2.2 2 10 = .int 0 := by rw [hd.2.2.1]; rfl
  have x11 : M.2.2 2 11 = .int 0 := by rw [hd.2.2.1]; rfl
  have x12 : M.2.2 2 12 = .int 0 := by rw [hd.2.2.1]; rfl
  replace hM : M.1 = 3 := hd.1
  replace hX := hX.nw hd (by decide)
  replace h1 := ((hd.2.2.2 1 (by decide)).1).trans h1
  clear hd
  refine aw_dup 3 dL_law_3 rfl ?_
  refine ap_i 4 dL_law_4 (c_X11_init hM k2 x8 x9 x10 x11 x12) ckI_RL_9 cd_X11_init rfl rfl (Nat.le_of_ble_eq_true rfl) ⟨⟨by decide, by decide⟩, by decide, by decide⟩ (fun M hq => ?_)
  obtain ⟨hF, hI⟩ := hq
  replace hX : AR M 0 L xs := by unfold AR; rw [(hF 0 (by decide)).1, (hF 0 (by decide)).2]; exact hX
  replace h1 := ((hF 1 (by decide)).1).trans h1
  clear k2 x8 x9 x10 x11 x12 hF
  replace hM := hI.1
  have hFx : Fa 25 M M := Fa.rf _ _
  obtain ⟨MI, hMI⟩ : ∃ MI, MI = M := ⟨_, rfl⟩
  rw [← hMI] at hI h1
  have hFx : Fa 25 MI M := by rw [hMI]; exact Fa.rf _ _
  refine aw_astore1 7 dL_law_7 rfl ?_
  refine na_obj 8 33 (25) dL_law_8 ckN_RL_10 rfl hM (by decide) (by decide) (fun M hd => ?_)
  have k25 := hd.2.1
  have y0 : M.2.2 25 0 = .int 0 := by rw [hd.2.2.1]; rfl
  have y1 : M.2.2 25 1 = .int 0 := by rw [hd.2.2.1]; rfl
  have y6 : M.2.2 25 6 = .int 0 := by rw [hd.2.2.1]; rfl
  have y8 : M.2.2 25 8 = .int 0 := by rw [hd.2.2.1]; rfl
  have y9 : M.2.2 25 9 = .int 0 := by rw [hd.2.2.1]; rfl
  have y10 : M.2.2 25 10 = .int 0 := by rw [hd.2.2.1]; rfl
  have y13 : M.2.2 25 13 = .int 0 := by rw [hd.2.2.1]; rfl
  have y23 : M.2.2 25 23 = .int 0 := by rw [hd.2.2.1]; rfl
  have y24 : M.2.2 25 24 = .int 0 := by rw [hd.2.2.1]; rfl
  have y32 : M.2.2 25 32 = .int 0 := by rw [hd.2.2.1]; rfl
  replace hM : M.1 = 26 := hd.1
  replace hX := hX.nw hd (by decide)
  replace hFx := hFx.nw hd (by decide)
  clear hd
  refine aw_dup 11 dL_law_11 rfl ?_
  refine ap_i 12 dL_law_12 (c_X12_init hM k25 y0 y1 y6 y8 y9 y10 y13 y23 y24 y32) ckI_RL_12 cd_X12_init rfl rfl (Nat.le_of_ble_eq_true rfl) ⟨⟨by decide, by decide⟩, by decide, by decide⟩ (fun M hq => ?_)
  obtain ⟨hF, hM2, hRW⟩ := hq
  replace hX : AR M 0 L xs := by unfold AR; rw [(hF 0 (by decide)).1, (hF 0 (by decide)).2]; exact hX
  replace hFx := hFx.trans hF (by decide)
  have hC := CW_I hI h1 hFx (by omega)
  refine aw_astore2 15 dL_law_15 rfl ?_
  refine aw_ic0 16 dL_law_16 ?_
  refine aw_istore3 17 dL_law_17 rfl ?_
  exact law_loop rfl hL 512 0 τI _ M _ _ rfl (Nat.zero_le _) hC hRW hX (by decide) (by decide)

/-! THE CLAIM OUT OF ONE WALK OF THE LAW'S BODY. Your part is whole_start (and what it stands on); all else here is the same for every law, but numbers. -/
def R_law : String := "PicturePapersLaw"
def lw_P (b : Addr) (xs : List Int32) (args : Array Value) (s : State) : Prop := args = #[.ref b] ∧ s.IntsAt b xs ∧ xs.length ≤ 4608 ∧ (Jvm.Cond.and given_1 narrow_1).before args s = true
def lw_Q (_ : Array Value) (s : State) (o : Outcome) (t : State) : Prop := o = .returned (some (.int 1)) ∧ Framed s o t [] 772320 6785288
def lw_Z (below : List Frame) (a : Array Value) (s : State) : State → Prop := fun t => ∃ o, t.status = .running ∧ Ended t below o ∧ lw_Q a s o t
/-- the law's own end, with 1 on the stack, nothing written that was there before, its room as the claim has it -/
theorem lw_ret {p : Program} {l : Launch} {e : Env} {s : State} {m : MethodId} {below : List Frame} {meth : Method} {c : Code} {b : Nat} (hx : p.tables.exec = Jvm.exec) (hb : c.code = code) (hr : meth.sig.returnType = ret) (hlocks : meth.locks = false) {pc : Nat} {H : Heap} {ls : Array Slot} (hdg : decode code pc = .ok (.ireturn, 1)) : W p l e room_1 s m #[Value.ref b] below meth c H [] 772320 6785288 (lw_Z below #[Value.ref b] s) (F0 m pc ls [.int 1]) := by
  intro T hT X
  obtain ⟨fs, hret, hrun, hended, hW, hframe⟩ := X.leave (v := some (.int 1)) (hlocks := hlocks) (fun h => by rw [hr] at h; cases h)
  have hmeth' : T.vm.method? m = some meth := X.method'
  refine ⟨T.setFrames fs, ?_, .returned (some (.int 1)), hrun, hended, rfl, ⟨_, rfl⟩, hW, hframe⟩
  jvm_step X.here [X.here.top, hx, hb, hdg, hmeth', hr, ret, narrow_b1]
  (try refine ⟨rfl, ?_⟩); (try refine ⟨rfl, ?_⟩)
  first | (intro acts; rw [hret _ acts rfl rfl rfl]) | rw [hret _ _ rfl rfl rfl]
  exact Steps.refl _
/-- what holds at the law's entry: the machine, the code, the tables' words (any of lw_tbl by 'hts w (by decide +kernel)'), the script of L ints xs at the cell b, what the Statement gives of the start (any of its parts by flat_of_before) -/
def lw_At (p : Program) (s : State) (m : MethodId) (meth : Method) (c : Code) (b L : Nat) (xs : Nat → Int32) : Prop :=
  p.tables.exec = Jvm.exec ∧ c.code = code ∧ meth.sig.returnType = ret ∧ c.maxLocals = 4 ∧ s.vm.findClass R_law = some m.cls ∧ (∀ w ∈ lw_tbl, w.before #[Value.ref b] s = true) ∧ va_X b L xs s s.heap ∧ b < s.heap.size ∧ meth.locks = false ∧ (Jvm.Cond.and given_1 narrow_1).before #[Value.ref b] s = true ∧ meth.name = "law"

theorem same_forget {s t : State} {L : List Loc} {k n : Nat} (h : s.sameButNew t L k n) (hL : ∀ q ∈ L, s.heap.size ≤ q.base) : s.sameButNew t [] k n := ⟨h.1, h.2.1, h.2.2.1, h.2.2.2.1, h.2.2.2.2.1, fun a c hc => by
  obtain ⟨c', h1, h2, h3, h4⟩ := h.2.2.2.2.2 a c hc
  exact ⟨c', h1, h2, h3, fun i _ => h4 i (fun q => Nat.not_le.mpr (Array.getElem?_eq_some_iff.mp hc).1 (hL _ q))⟩⟩
theorem eq_i {args : Array Value} {s : State} {tm : Term} {z : Int32} (h : (Cond.eq tm (.int z)).before args s = true) : tm.eval args s none [] s = some (.int z) := by
  cases hv : tm.eval args s none [] s with
  | none => simp [Cond.before, Cond.holds, Cond.value, hv] at h
  | some w =>
    have hz : (Term.int z).eval args s none [] s = some (.int z) := rfl
    simp only [Cond.before, Cond.holds, Cond.value, hv, hz] at h
    cases w <;> simp_all
theorem len_0 {args : Array Value} {s : State} {tm : Term} (h : (Term.length tm).eval args s none [] s = some (.int 0)) : ∃ (a : Addr) (cell : Cell), tm.eval args s none [] s = some (.ref a) ∧ s.arrayAt? a = some cell ∧ cell.slots.size = 0 := by
  obtain ⟨a, cell, ht, hat, hv⟩ := Term.length_spec h
  have hsz : cell.slots.size < 2 ^ 31 := by
    simp only [Term.eval, ht, hat, Option.bind_eq_bind, Option.bind_some] at h
    by_cases hlt : cell.slots.size < 2147483648
    · exact hlt
    · simp [hlt] at h
  have hz : nI 0 = nI cell.slots.size := Value.int.inj hv
  exact ⟨a, cell, ht, hat, ((nI_eq (by omega) hsz).mp hz).symm⟩
theorem cl_ins0 : (vwCl.all (fun r => decide (Cond.instantiable r.1 r.2.2 ∈ lw_tbl))) = true := by decide +kernel
theorem nm_in0 : (nestM.all (fun q => decide (Cond.methodLinkNest q.1 q.2.1 q.2.2 "PicturePapers" ∈ lw_tbl))) = true := by decide +kernel
theorem nf_in0 : (nestF.all (fun q => decide (Cond.fieldLinkNest q.1 q.2 "PicturePapers" "NO_ACTS" "[I" "PicturePapers" ∈ lw_tbl))) = true := by decide +kernel
theorem ov_in0 : (overs.all (fun C => decide (Cond.arrayOver (.object C) ∈ lw_tbl))) = true := by decide +kernel
theorem wd_in0 : (Cond.declares ⟨"PicturePapers$Taken", "takenTelling", "(LPicturePapers$Trace;)I"⟩ ∈ lw_tbl) ∧ (Cond.castable "[I" "java/lang/Cloneable" ∈ lw_tbl) ∧ (Cond.laysStatic "PicturePapers" "NO_ACTS" "[I" ∈ lw_tbl) ∧ (Cond.initialized "PicturePapers" ∈ lw_tbl) ∧ (Cond.arrayClass .int ∈ lw_tbl) := by decide +kernel
def lawM (L : Nat) (xs : Nat → Int32) : Mem := (2, fun a => if a = 0 then (20, L) else if a = 1 then (20, 0) else (99, 0), fun a j => if a = 0 then .int (xs j) else .int 0)
theorem arr_ref {s : State} {C : String} {A : Array Value} (h : (Cond.arrayOver (.object C)).before A s = true) : ∃ cA : ClassId, ArrOfT s cA (.object C) ∧ va_RA s cA (.object C) := by
  obtain ⟨comp, cA, kA, h1, h2, h3, h4, h5⟩ := Cond.arrayOver_spec h
  exact ⟨cA, fun N z => ⟨(fun k q => by cases q), kA, h3, comp, h4⟩, kA, comp, h3, h4, h1, h5⟩
theorem arr_int {s : State} {A : Array Value} (h : (Cond.arrayClass .int).before A s = true) : ∃ cA : ClassId, ArrOfT s cA .int ∧ va_RA s cA .int := by
  obtain ⟨cA, kA, comp, h1, h2, h3⟩ := Cond.arrayClass_spec h
  exact ⟨cA, fun N z => ⟨(fun k q => by cases q), kA, h2, comp, h3⟩, h1⟩

set_option maxHeartbeats 4000000 in
set_option maxRecDepth 100000 in
theorem whole_start {p : Program} {e : Env} {s : State} {m : MethodId} {below : List Frame} {meth : Method} {c : Code} (l : Launch) {b L : Nat} {xs : Nat → Int32} (hL : L ≤ 4608) (C0 : lw_At p s m meth c b L xs) : W p l e room_1 s m #[Value.ref b] below meth c s.heap [] 0 0 (lw_Z below #[Value.ref b] s) (entryFrame m ([Value.ref b] : List Value).toArray 4) := by
  obtain ⟨hx, hb, hr, hml, hown, hts, hX, hbl, hlocks, hgv, hnm⟩ := id C0
  have hq := flat_of_before _ hgv
  have harr : (Cond.arrayOf (.static "PicturePapers" "NO_ACTS" "[I") .int).before #[Value.ref b] s = true := hq _ (by decide +kernel)
  have hle0 : (Cond.eq (.length (.static "PicturePapers" "NO_ACTS" "[I")) (.int 0)).before #[Value.ref b] s = true := hq _ (by decide +kernel)
  obtain ⟨n, nc, ht, hat, hn0⟩ := len_0 (eq_i hle0)
  obtain ⟨hnc, hnk, -, -⟩ := State.arrayAt?_spec hat
  have hnof := (Cond.arrayOf_spec harr ht hnc).1
  have hnl : n < s.heap.size := (Array.getElem?_eq_some_iff.mp hnc).1
  obtain ⟨scr, hs1, hs2, hs3, hs4, hs5⟩ := id hX
  have HD : ∀ k : Nat, ∃ q : ClassId × (Nat → Nat), ∀ r : vw_C, vwCl[k]? = some r → u_Kn s r.1 r.2.1 r.2.2 q.1 q.2 := fun k => by
    cases hk : vwCl[k]? with
    | none => exact ⟨(m.cls, fun _ => 0), fun r h => by cases h⟩
    | some r0 =>
      have hm : r0 ∈ vwCl := List.mem_of_getElem? hk
      have hi := of_decide_eq_true (List.all_eq_true.mp cl_ins0 r0 hm)
      obtain ⟨cC, iS, h⟩ := u_known (C := r0.1) (T := r0.2.1) (N := r0.2.2) (n := r0.2.2) hts (fun w hw => gtbl_in (cl_in hk w hw)) (hts _ hi)
      exact ⟨(cC, iS), fun r h2 => by cases h2; exact h⟩
  obtain ⟨cI, hI1, hI2⟩ := arr_int (hts _ wd_in0.2.2.2.2)
  have hov : ∀ C ∈ overs, (Cond.arrayOver (.object C)).before #[Value.ref b] s = true := fun C hC => hts _ (of_decide_eq_true (List.all_eq_true.mp ov_in0 C hC))
  obtain ⟨c21, h211, h212⟩ := arr_ref (hov "PicturePapers$Picture" (by decide))
  obtain ⟨c22, h221, h222⟩ := arr_ref (hov "PicturePapers$Lens" (by decide))
  obtain ⟨c23, h231, h232⟩ := arr_ref (hov "PicturePapers$Look" (by decide))
  obtain ⟨c24, h241, h242⟩ := arr_ref (hov "PicturePapers$Sheet" (by decide))
  obtain ⟨x, hxe⟩ : ∃ x : CX, x = (l, (fun k => (Classical.choose (HD k)).1, fun k => (Classical.choose (HD k)).2), s.heap.size, s.heap, b, n, fun k => if k = 20 then cI else if k = 21 then c21 else if k = 22 then c22 else if k = 23 then c23 else c24) := ⟨_, rfl⟩
  have e0 : ad x 0 = b := by rw [hxe]; rfl
  have e1 : ad x 1 = n := by rw [hxe]; rfl
  have eH : xH x = s.heap := by rw [hxe]
  have ez : xz x = s.heap.size := by rw [hxe]
  have eb : xb x = b := by rw [hxe]
  have en : xn x = n := by rw [hxe]
  have el : xl x = l := by rw [hxe]
  have hKN : KN x s := by
    refine ⟨⟨fun k r hk => ?_, fun k r hk => ?_⟩, fun a ha cell hc => ?_, fun q hq => ?_, fun q hq => ?_, fun C hC => va_AO.of (hov C hC), va_Nw.of rfl (hts _ wd_in0.1), va_Nw.of rfl (hts _ wd_in0.2.1), ?_⟩
    · rw [hxe]
      exact Classical.choose_spec (HD k) r hk
    · rw [hxe] at hk
      match k, hk with
      | 0, hk => cases hk; exact ⟨hI1, hI2⟩
      | 1, hk => cases hk; exact ⟨h211, h212⟩
      | 2, hk => cases hk; exact ⟨h221, h222⟩
      | 3, hk => cases hk; exact ⟨h231, h232⟩
      | 4, hk => cases hk; exact ⟨h241, h242⟩
      | k + 5, hk => exact absurd hk (by simp [xT])
    · rw [eH] at hc
      rcases (show a = 0 ∨ a = 1 by omega) with rfl | rfl
      · rw [e0] at hc
        cases hs1.symm.trans hc
        exact hs2
      · rw [e1] at hc
        cases hnc.symm.trans hc
        exact hnof
    · exact va_Nw.of rfl (hts _ (of_decide_eq_true (List.all_eq_true.mp nm_in0 q hq)))
    · exact va_Nw.of rfl (hts _ (of_decide_eq_true (List.all_eq_true.mp nf_in0 q hq)))
    · rw [en, eH]
      exact va_Zof (hts _ wd_in0.2.2.1) (hts _ wd_in0.2.2.2.1) ht (fun a ha => by rw [ez]; omega)
  have hCT : CT x mL_law p s m #[Value.ref b] meth c := ⟨hx, hb, hml, hr, hown, fun w hw => hts w (gtbl_in hw), hlocks, hnm, hKN, by rw [ez]; exact Nat.le_refl _⟩
  have hRep : Rep x (lawM L xs) s.heap := by
    refine ⟨Nat.le_refl 2, by rw [ez]; rfl, fun q _ => by rw [eH], ⟨by rw [eb, ez]; exact hbl, by rw [en, ez]; exact hnl⟩, fun a ha => ?_, fun a ha h99 => ?_⟩
    · rcases (show a = 0 ∨ a = 1 by omega) with rfl | rfl
      · refine ⟨rfl, scr, by rw [eH, e0]; exact hs1, hs3, hs4, fun j hj => ?_⟩
        exact hs5 j hj
      · refine ⟨rfl, nc, by rw [eH, e1]; exact hnc, hnk, hn0, fun j hj => absurd hj (Nat.not_lt_zero _)⟩
    · exact absurd (show ((lawM L xs).2.1 a).1 = 99 by show (if a = 0 then ((20, L) : Nat × Nat) else if a = 1 then (20, 0) else (99, 0)).1 = 99; rw [if_neg (by omega), if_neg (by omega)]) h99
  have hAW := law_body (L := L) (xs := xs) (M := lawM L xs) hL rfl ⟨rfl, fun _ _ => rfl⟩ rfl
  have hv := lv_entry (([.ref 0] : List Value).map (cv x)) (n := 4) (Nat.le_of_ble_eq_true rfl)
  have hcv : ([.ref 0] : List Value).map (cv x) = [Value.ref b] := by show [Value.ref (ad x 0)] = _; rw [e0]
  rw [hcv] at hv
  rw [lg_entry_eq]
  generalize (lg_sl ([Value.ref b]) ++ List.replicate (4 - (lg_sl ([Value.ref b])).length) Slot.unset).toArray = la at hv ⊢
  have hLV : LV0 x la [some (.ref 0), none, none, none] 4 := by
    refine LV0.of hv rfl fun i v hi => ?_
    match i, hi with
    | 0, hi => cases hi; rw [show cv x (.ref 0) = Value.ref b by show Value.ref (ad x 0) = _; rw [e0]]; exact List.mem_cons_self
    | 1, hi => cases hi
    | 2, hi => cases hi
    | 3, hi => cases hi
    | i + 4, hi => cases hi
  have hW := hAW x p e s m #[Value.ref b] below meth c s.heap [] la hCT hRep hLV (fun q hq => by cases hq)
  rw [el] at hW
  intro T hT X
  obtain ⟨t, st, o, h1, h2, ⟨r, M', h3, h4, h5⟩, Lq, ⟨h6, h7, h8⟩, h9⟩ := hW T hT X
  refine ⟨t, st, o, h1, h2, ?_, h6, h7, same_forget h8 (fun q hq => by have := h9 q hq; rw [ez] at this; exact this)⟩
  rw [h3, h4]
  rfl

set_option maxHeartbeats 4000000 in
theorem lw_walk (l : Launch) (b : Addr) (xs : List Int32) : MetFree l x (headSpec (Jvm.Cond.code x code maxLocals ret :: tables_1) room_1) (lw_P b xs) (fun _ _ _ _ _ => True) lw_Q := by
  refine MetFree.of_bodyS (code := code) (maxLocals := maxLocals) (ret := ret) (by decide) ?_ ?_
  · intro args s m h hn
    obtain ⟨meth, c, h1, h2, h3, h4, h5, h6, -, -⟩ := Cond.code_spec hn (atoms_spec (ws := Jvm.Cond.code x code maxLocals ret :: tables_1) h _ List.mem_cons_self)
    exact ⟨meth, c, h1, h2, h3, h4, h5, h6⟩
  · intro p e s m args below meth c s₁ B hml0 hP _
    obtain ⟨rfl, hx, hbd, hgv⟩ := hP
    obtain ⟨scr, harrAt, hlist, hof, hsmall⟩ := hx
    obtain ⟨hcb, hkn, -, -⟩ := State.arrayAt?_spec harrAt
    have hown : s.vm.findClass R_law = some m.cls := findClass_of_methodNamed B.named
    have hts0 : ∀ c ∈ (Jvm.Cond.code x code maxLocals ret :: tables_1), c.before #[Value.ref b] s = true := atoms_spec (ws := Jvm.Cond.code x code maxLocals ret :: tables_1) B.pre
    have hts : ∀ w ∈ lw_tbl, w.before #[Value.ref b] s = true := k2_hts_sels lw_privs (fun w hw => hts0 w (List.mem_cons_of_mem _ hw)) lw_privs_ok
    have hml : c.maxLocals = 4 := B.maxLocals_eq (hts0 _ List.mem_cons_self)
    have X₀ : Stand p l e room_1 s m #[Value.ref b] below meth c s₁ [] 0 0 := Stand.of_body B
    have hh0 : s₁.heap = s.heap := by rw [B.state]; rfl
    have hsz : scr.slots.size = xs.length := by rw [← Array.length_toList, hlist, List.length_map]
    have hval : ∀ j : Nat, j < xs.length → scr.slots[j]? = some (.int (xs.getD j 0)) := fun j hj => by
      rw [← Array.getElem?_toList, hlist]
      simp [hj]
    have hbl : b < s.heap.size := (Array.getElem?_eq_some_iff.mp hcb).1
    have hX : va_X b xs.length (fun j => xs.getD j 0) s s.heap := ⟨scr, hcb, hof, hkn, hsz, hval⟩
    have K : W p l e room_1 s m #[Value.ref b] below meth c s₁.heap [] 0 0 (lw_Z below #[Value.ref b] s) (entryFrame m ([Value.ref b] : List Value).toArray 4) := by
      rw [hh0]
      exact whole_start l hbd ⟨B.exec, B.bytes, B.returns, hml, hown, hts, hX, hbl, B.notSynchronized, hgv, (name_of_methodNamed B.named B.method).1⟩
    obtain ⟨t, a1, o, b1, b2, b3⟩ := K s₁ rfl X₀
    exact ⟨t, o, a1, b1, b2, b3⟩
theorem lw_pre_spec {args : Array Value} {s : State} (h : (Jvm.Cond.and given_1 narrow_1).before args s = true) (hr : rest_1_c.before args s = true) : ∃ (b : Addr) (xs : List Int32), lw_P b xs args s := by
  have hs := flat_of_before _ h
  have hq := flat_of_before _ hr
  have hc : (Cond.count 1).before args s = true := hs _ (by decide +kernel)
  have harr : (Cond.arrayOf (.arg 0) .int).before args s = true := hs _ (by decide +kernel)
  have hle : (Cond.le (.length (.arg 0)) (.int 4608)).before args s = true := hs _ (by decide +kernel)
  have hlen : (Cond.isInt (.length (.arg 0))).before args s = true := hq _ (by decide +kernel)
  have hall : (Cond.all (.arg 0) (.isInt (.elem (.arg 0) (.index 0)))).before args s = true := hq _ (by decide +kernel)
  obtain ⟨b, xs, hb, hx⟩ := State.ints_of_pre rfl harr hlen hall
  have hsm : xs.length < 2 ^ 31 := hx.choose_spec.2.2.2
  have hev : (Term.length (.arg 0)).eval args s none [] s = some (.int xs.length.toInt32) := hx.length_eval hb
  have hv := Cond.le_ints hev (show (Term.int 4608).eval args s none [] s = some (.int 4608) from rfl)
  have hd : xs.length.toInt32 ≤ 4608 := by
    simpa [Cond.before, Cond.holds, hv] using hle
  have hN : xs.length ≤ 4608 := (Int32.ofNat_le_ofNat hsm (by decide)).mp (show Int32.ofNat xs.length ≤ Int32.ofNat 4608 from hd)
  exact ⟨b, xs, Cond.one_arg hc (show args[0]? = some (.ref b) from hb), hx, hN, h⟩
theorem lw_comes (l : Launch) : Comes l x (Jvm.Cond.code x code maxLocals ret :: tables_1) room_1 (fun tb e args s => Calls_1 tb e args s ∧ rest_1 tb e args s ∧ Pre_1 tb e args s)
    (fun _ _ args s o t => lw_Q args s o t) := by
  intro p e ha hc hk s m args below hf hfit hheap happ hpre
  obtain ⟨b, xs, hP⟩ := lw_pre_spec hpre.2.2 hpre.2.1
  obtain ⟨k, o, h1, h2, h3, hQ⟩ := lw_walk l b xs p e ha hc hk s m args below hf ((Spec.applies_iff_loose hf).mp happ).1 hP trivial
  exact ⟨k, o, h1, h2, h3, hQ⟩
theorem lw_frame {s t : State} {o : Outcome} {args : Array Value} (h : Framed s o t [] 772320 6785288) :
    Framed s o t (fieldLocs frame_1_writes args s ++ arrayLocs frame_1_arrays args s ++ staticLocs frame_1_statics s) 772320 6785288 := h
theorem lw_limb (L : Cond) (hL : ∀ (args : Array Value) (s t : State), L.after args s (.returned (some (.int 1))) t = true) :
    ArmFor flags0 classFile x code maxLocals ret World_1 tables_1 room_1 Calls_1 rest_1 Pre_1
      (fun tb e a s o t => postC L tb e a s o t ∧ Framed s o t (fieldLocs frame_1_writes a s ++ arrayLocs frame_1_arrays a s ++ staticLocs frame_1_statics s) 772320 6785288) := by
  intro l _ _ _ p e ha hc hk s m args below hf hfit hheap happ hpre
  obtain ⟨k, o, h1, h2, h3, rfl, hF⟩ := lw_comes l p e ha hc hk s m args below hf hfit hheap happ hpre
  exact ⟨k, _, h1, h2, h3, hL args s _, lw_frame hF⟩
theorem i_vc : Claimed_1_1 ∧ Claimed_1_2 := ⟨lw_limb limb_1_1 (fun args s t => by simp [limb_1_1, Cond.after, Cond.holds, Cond.value]), lw_limb limb_1_2 (fun args s t => Cond.after_iff.mpr (by
  first | (rw [show limb_1_2 = Cond.eq .result (.int 1) from rfl, Cond.eq_ints (x := 1) (y := 1) rfl rfl]; simp; done) | (simp [limb_1_2, Cond.value, Term.eval]; done)))⟩

