/-! arrays copied and cloned (by hand) -/
/-- n of f's values from place sp on, laid into g from place dp on -/
def cpV (f g : Nat → Value) (sp dp n : Nat) : Nat → Value := fun k => if dp ≤ k ∧ k < dp + n then f (sp + (k - dp)) else g k
section
variable {Y : YY} {R : Room} {Q : Option Value → Mem → Prop} {ls : List (Option Value)} {st : List Value} {M : Mem} {cs ss : Nat}
theorem aw_copy (pc : Nat) {idx a0 a n0 n1 : Nat} (sp dp n : Nat) {i1 i2 i3 : Int32} (hd : decode Y.2.1 pc = .ok (.invokestatic idx, 3)) (ck : Cond.methodLink Y.1.cls idx arraycopyName ∈ lw_tbl) (hk0 : M.2.1 a0 = (20, n0)) (hk1 : M.2.1 a = (20, n1)) (h0 : 2 ≤ a0) (h1 : 2 ≤ a) (e1 : i1 = nI sp) (e2 : i2 = nI dp) (e3 : i3 = nI n) (hs : sp + n ≤ n0) (hdn : dp + n ≤ n1) (hN : n0 < 100000) (hN1 : n1 < 100000)
    (hint : ∀ i, i < n → ∃ z, M.2.2 a0 (sp + i) = .int z) (hw : (st.map fun v => v.category).sum ≤ 8) (hfr : 1 ≤ R.frames) (hlo : 40 ≤ R.locals) (kk : AW Y R Q (pc + 3) ls st (wa M a (cpV (M.2.2 a0) (M.2.2 a) sp dp n)) cs ss) : AW Y R Q pc ls (.int i3 :: .int i2 :: .ref a :: .int i1 :: .ref a0 :: st) M cs ss := by
  intro x p e s m args below meth c H locs la hC hR hL hq
  obtain ⟨hx, hb, hml, hr, hown, hts, hlocks, hnm, hK, hsz⟩ := id hC
  subst e1 e2 e3
  have c1 := nI_clamp (n := sp) (by omega)
  have c2 := nI_clamp (n := dp) (by omega)
  have c3 := nI_clamp (n := n) (by omega)
  have g0 := hR.arr2 h0 (Nat.le_refl 20) (by omega) hk0
  have g1 := hR.arr2 h1 (Nat.le_refl 20) (by omega) hk1
  have hnw : nativeFrameWords "java/lang/System" "arraycopy" 5 + 11 ≤ 32 := by decide +kernel
  have hroom : 2 * 0 + ((st.map (cv x)).map fun v => v.category).sum + (nativeFrameWords "java/lang/System" "arraycopy" 5 + 11) ≤ R.locals := by
    rw [cat_sum]
    omega
  intro T hT X
  obtain ⟨-, k0, hkk0, cm0, hk0k⟩ := (hK.1.2 0 (xA x 20, akT 20) rfl).1 n0 (fun j => cv x (M.2.2 a0 j))
  obtain ⟨-, k1, hkk1, cm1, hk1k⟩ := (hK.1.2 0 (xA x 20, akT 20) rfl).1 n1 (fun j => cv x (M.2.2 a j))
  obtain ⟨vm', X', step⟩ := X.arraycopy hx hown (hts _ (gtbl_of ck rfl)) (hts _ (gtbl_of (by decide +kernel) rfl)) (hts _ (gtbl_of (by decide +kernel) rfl)) (hts _ (gtbl_of (by decide +kernel) rfl)) (src := ad x a0) (dst := ad x a) (cs := arrV (xA x 20) n0 (fun j => cv x (M.2.2 a0 j))) (cd := arrV (xA x 20) n1 (fun j => cv x (M.2.2 a j))) (srcPos := nI sp) (destPos := nI dp) (n := nI n) (by rw [hT]; exact g0) (by rw [hT]; exact g1)
    (fun _ h => by cases h) (fun _ h => by cases h) (fun h => by cases h) (fun h => by cases h) hkk0 hkk1 (sType := .int) (dType := .int) hk0k hk1k rfl (nI_pos (by omega)) (nI_pos (by omega)) (nI_pos (by omega))
    (by rw [nI_toInt (by omega), nI_toInt (by omega)]; show ¬ _ > ((arrV (xA x 20) n0 (fun j => cv x (M.2.2 a0 j))).slots.size : Int); rw [arrV_size]; omega)
    (by rw [nI_toInt (by omega), nI_toInt (by omega)]; show ¬ _ > ((arrV (xA x 20) n1 (fun j => cv x (M.2.2 a j))).slots.size : Int); rw [arrV_size]; omega)
    (fun vm₁ _ i hi => by
      rw [c3] at hi
      obtain ⟨z, hz⟩ := hint i hi
      have e : (arrV (xA x 20) n0 (fun j => cv x (M.2.2 a0 j))).slots.getD ((nI sp).toNatClampNeg + i) .null = .int z := by
        rw [Array.getD_eq_getD_getElem?, c1, arrV_read _ _ (by omega), hz]
        rfl
      refine ⟨?_, ?_⟩
      · rw [e]; rfl
      · rw [e]; exact trivial)
    (g := F0 m pc la (.int (nI n) :: .int (nI dp) :: .ref (ad x a) :: .int (nI sp) :: .ref (ad x a0) :: st.map (cv x))) rfl (by rw [hml]; exact hL.2.1) (rest := st.map (cv x)) rfl (by rw [hb]; exact hd) hfr hroom
  have ec : copied (arrV (xA x 20) n0 (fun j => cv x (M.2.2 a0 j))) (arrV (xA x 20) n1 (fun j => cv x (M.2.2 a j))) (nI sp) (nI dp) (nI n) = arrV (xA x 20) n1 (fun j => cv x (cpV (M.2.2 a0) (M.2.2 a) sp dp n j)) := by
    have q := va_copied (fun z : Value => z) (xA x 20) (xA x 20) (n0 := n0) (n1 := n1) (sp := (nI sp).toNatClampNeg) (dp := (nI dp).toNatClampNeg) (n := (nI n).toNatClampNeg) (fun j => cv x (M.2.2 a0 j)) (fun j => cv x (M.2.2 a j)) (by rw [c1, c3]; exact hs)
    refine Eq.trans q ?_
    congr 1
    funext k
    rw [c1, c2, c3]
    unfold va_cpy cpV
    by_cases h : dp ≤ k ∧ k < dp + n
    · rw [if_pos h, if_pos h]
    · rw [if_neg h, if_neg h]
  rw [ec] at X' step
  have hl : ad x a < H.size := (Array.getElem?_eq_some_iff.mp g1).1
  have hheap : ((T.setVm vm').setCell (ad x a) (arrV (xA x 20) n1 (fun j => cv x (cpV (M.2.2 a0) (M.2.2 a) sp dp n j)))).heap = H.setIfInBounds (ad x a) (arrV (xA x 20) n1 (fun j => cv x (cpV (M.2.2 a0) (M.2.2 a) sp dp n j))) := by rw [← hT]; rfl
  have oq : ∀ q : Nat, q ≠ ad x a → (H.setIfInBounds (ad x a) (arrV (xA x 20) n1 (fun j => cv x (cpV (M.2.2 a0) (M.2.2 a) sp dp n j))))[q]? = H[q]? := fun q hq => by simp [Array.getElem?_setIfInBounds, Ne.symm hq]
  obtain ⟨t, a1, b1⟩ := kk x p e s m args below meth c _ _ la hC (hR.put (a := a) (f := cpV (M.2.2 a0) (M.2.2 a) sp dp n) h1 (by simp) oq ⟨fun h => by rw [hk1] at h; exact absurd (show (20 : Nat) < 20 from h) (Nat.lt_irrefl _), fun h => by
      rw [hk1]
      refine ⟨by show (20 : Nat) < 25; decide, ?_⟩
      show (H.setIfInBounds (ad x a) _)[ad x a]? = some _
      simp [Array.getElem?_setIfInBounds, hl]⟩) hL (fun q hq1 => by
      rcases List.mem_append.mp hq1 with h | h
      · exact hq q h
      · obtain ⟨z, -, hz⟩ := List.mem_map.mp h
        rw [← hz]
        show xz x ≤ ad x a
        rw [ad_hi x h1]
        omega) _ hheap X'
  exact ⟨t, step t a1, b1⟩
theorem aw_clone (pc : Nat) {idx a n : Nat} (hd : decode Y.2.1 pc = .ok (.invokevirtual idx, 3)) (ck : Cond.methodLink Y.1.cls idx ⟨"[I", "clone", "()Ljava/lang/Object;"⟩ ∈ lw_tbl) (hk : M.2.1 a = (20, n)) (h2 : 2 ≤ a) (hint : ∀ i, i < n → ∃ z, M.2.2 a i = .int z) (hw : (st.map fun v => v.category).sum ≤ 8) (hfr : 1 ≤ R.frames) (hlo : 22 ≤ R.locals) (hc : cs + 1 ≤ R.cells) (hs : ss + n ≤ R.slots)
    (kk : AW Y R Q (pc + 3) ls (.ref M.1 :: st) (nw M (20, n) (M.2.2 a)) (cs + 1) (ss + n)) : AW Y R Q pc ls (.ref a :: st) M cs ss := by
  intro x p e s m args below meth c H locs la hC hR hL hq
  obtain ⟨hx, hb, hml, hr, hown, hts, hlocks, hnm, hK, hsz⟩ := id hC
  have g1 := hR.arr2 h2 (Nat.le_refl 20) (by omega) hk
  have hnmI : s.vm.findClass "[I" = some (xA x 20) := va_nm_int (hK.1.2 0 (xA x 20, akT 20) rfl).2
  obtain ⟨c0, t0', f1, f2, f3⟩ := Cond.castable_spec (va_Nw.use (A := args) rfl hK.2.2.2.2.2.2.1)
  cases hnmI.symm.trans f1
  intro T hT X
  have hcellT : T.heap[ad x a]? = some (arrV (xA x 20) n (fun j => cv x (M.2.2 a j))) := by rw [hT]; exact g1
  obtain ⟨-, kA, hkA, comp, hkind⟩ := State.isArrayOf_alike X.warmed.alike ((hK.1.2 0 (xA x 20, akT 20) rfl).1 0 (fun _ => .null))
  obtain ⟨-, kS, hkS, compS, hkindS⟩ := (hK.1.2 0 (xA x 20, akT 20) rfl).1 0 (fun _ => .null)
  obtain ⟨vm', X', st'⟩ := X.cloneArray hx hown (hts _ (gtbl_of ck rfl)) (hts _ (gtbl_of (by decide +kernel) rfl)) (hts _ (gtbl_of (by decide +kernel) rfl)) (hts _ (gtbl_of (by decide +kernel) rfl)) (hts _ (gtbl_of (by decide +kernel) rfl)) (a := ad x a) (cell := arrV (xA x 20) n (fun j => cv x (M.2.2 a j))) hcellT (fun k h => by cases h) (fun h => by cases h) hnmI f2 f3
    (fun i v hv => by
      have hk' : T.vm.classes[xA x 20]? = some kA := hkA
      have hfit := va_fit (cA := xA x 20) (n := n) (F := fun j => cv x (M.2.2 a j)) (ty := .int) (fun i hi => by
        obtain ⟨z, hz⟩ := hint i hi
        show fits .int (cv x (M.2.2 a i)) = true
        rw [hz]
        rfl) i v hv
      have hkind' : kA.kind = .array comp .int := hkind
      rw [show (arrV (xA x 20) n (fun j => cv x (M.2.2 a j))).cls = xA x 20 from rfl]
      simpa [State.fitsSlot, State.slotType?, hk', hkind'] using hfit)
    (g := F0 m pc la (.ref (ad x a) :: st.map (cv x))) rfl (by rw [hml]; exact hL.2.1) rfl (by rw [hb]; exact hd) hfr (by rw [cat_sum]; show 2 * 0 + _ + 14 ≤ _; omega) hc (by rw [arrV_size]; exact hs) (hloader := Vm.clonesLoader_of_array hkS hkindS)
  rw [arrV_size] at X'
  obtain ⟨t, b1, b2⟩ := kk x p e s m args below meth c (H.push (arrV (xA x 20) n (fun j => cv x (M.2.2 a j)))) locs la hC (hR.new (kn := (20, n)) (f := M.2.2 a) (by rw [Array.size_push]) (fun q hq => by rw [Array.getElem?_push, if_neg (Nat.ne_of_lt hq)]) ⟨fun h => absurd (show (20 : Nat) < 20 from h) (Nat.lt_irrefl _), fun _ => ⟨by show (20 : Nat) < 25; decide, by rw [hR.top, Array.getElem?_push_size]⟩⟩) hL hq
    ((T.setVm vm').pushCell (arrV (xA x 20) n (fun j => cv x (M.2.2 a j)))) (by rw [← hT]; rfl) X'
  refine ⟨t, st' t ?_, b2⟩
  rw [hT]
  have htop := hR.top
  rw [← htop]
  exact b1
theorem aw_cast (pc : Nat) {idx a n : Nat} (hd : decode Y.2.1 pc = .ok (.checkcast idx, 3)) (ck : Cond.classLink Y.1.cls idx "[I" ∈ lw_tbl) (hk : M.2.1 a = (20, n)) (h2 : 2 ≤ a) (kk : AW Y R Q (pc + 3) ls (.ref a :: st) M cs ss) : AW Y R Q pc ls (.ref a :: st) M cs ss := by
  intro x p e s m args below meth c H locs la hC hR hL hq
  obtain ⟨hx, hb, hml, hr, hown, hts, hlocks, hnm, hK, hsz⟩ := id hC
  have g1 := hR.arr2 h2 (Nat.le_refl 20) (by omega) hk
  have hnmI : s.vm.findClass "[I" = some (xA x 20) := va_nm_int (hK.1.2 0 (xA x 20, akT 20) rfl).2
  intro T hT X
  obtain ⟨vm', X', st'⟩ := X.checkcastYes hx hown (hts _ (gtbl_of ck rfl)) (by rw [hT]; exact g1) rfl hnmI (va_asg _ _) (g := F0 m pc la (.ref (ad x a) :: st.map (cv x))) rfl rfl (by rw [hb]; exact hd)
  obtain ⟨t, a1, b1⟩ := kk x p e s m args below meth c H locs la hC hR hL hq (T.setVm vm') hT X'
  exact ⟨t, st' t a1, b1⟩
end
