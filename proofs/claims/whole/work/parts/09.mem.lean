/-! rules of the abstract machine for instructions that touch cells -/
def wa (M : Mem) (a : Nat) (f : Nat → Value) : Mem := (M.1, M.2.1, fun b => if b = a then f else M.2.2 b)
def up (f : Nat → Value) (k : Nat) (v : Value) : Nat → Value := fun j => if j = k then v else f j
def wr (M : Mem) (a k : Nat) (v : Value) : Mem := wa M a (up (M.2.2 a) k v)
def nw (M : Mem) (kn : Nat × Nat) (f : Nat → Value) : Mem := (M.1 + 1, fun b => if b = M.1 then kn else M.2.1 b, fun b => if b = M.1 then f else M.2.2 b)
def tyCl (ci : Nat) : Nat → FieldType := match ci with
  | 0 => tyX0
  | 1 => tyX1
  | 2 => tyX2
  | 3 => tyX3
  | 4 => tyX4
  | 5 => tyX5
  | 6 => tyX6
  | 7 => tyX7
  | 8 => tyX8
  | 9 => tyX9
  | 10 => tyX10
  | 11 => tyX11
  | _ => tyX12
theorem cl_in0 : (vwCl.all (fun r => (u_ws r.1 r.2.1 r.2.2).all (fun w => decide (w ∈ lw_tbl) && goodWord w))) = true := by decide +kernel
theorem cl_ty0 : ((List.range 13).all (fun ci => match vwCl[ci]? with
  | some r => (List.range r.2.2).all (fun k => decide (parseFieldDescriptor (r.2.1 k).2.2.1 = some (tyCl ci k)))
  | none => false)) = true := by decide +kernel
theorem cl_nm0 : ((List.range 13).all (fun ci => match vwCl[ci]? with
  | some r => (List.range r.2.2).all (fun a => (List.range r.2.2).all (fun b => decide (a = b) || decide ((r.2.1 a).2.1 ≠ (r.2.1 b).2.1)))
  | none => false)) = true := by decide +kernel
theorem cl_lt {ci : Nat} {r : vw_C} (h : vwCl[ci]? = some r) : ci < 13 := (List.getElem?_eq_some_iff.mp h).1
theorem cl_in {ci : Nat} {r : vw_C} (h : vwCl[ci]? = some r) : ∀ w ∈ u_ws r.1 r.2.1 r.2.2, w ∈ gtbl := by
  intro w hw
  have h1 := List.all_eq_true.mp cl_in0 r (List.mem_of_getElem? h)
  have h2 := List.all_eq_true.mp h1 w hw
  simp only [Bool.and_eq_true, decide_eq_true_eq] at h2
  exact gtbl_of h2.1 h2.2
theorem cl_ty {ci : Nat} {r : vw_C} (h : vwCl[ci]? = some r) : ∀ k, k < r.2.2 → parseFieldDescriptor (r.2.1 k).2.2.1 = some (tyCl ci k) := by
  intro k hk
  have h1 := List.all_eq_true.mp cl_ty0 ci (List.mem_range.mpr (cl_lt h))
  simp only [h] at h1
  have h2 := List.all_eq_true.mp h1 k (List.mem_range.mpr hk)
  simpa using h2
theorem cl_nm {ci : Nat} {r : vw_C} (h : vwCl[ci]? = some r) : ∀ a, a < r.2.2 → ∀ b, b < r.2.2 → a ≠ b → (r.2.1 a).2.1 ≠ (r.2.1 b).2.1 := by
  intro a ha b hb hne
  have h1 := List.all_eq_true.mp cl_nm0 ci (List.mem_range.mpr (cl_lt h))
  simp only [h] at h1
  have h2 := List.all_eq_true.mp (List.all_eq_true.mp h1 a (List.mem_range.mpr ha)) b (List.mem_range.mpr hb)
  simp only [Bool.or_eq_true, decide_eq_true_eq] at h2
  rcases h2 with h2 | h2
  · exact absurd h2 hne
  · exact h2
theorem cv_ok (x : CX) {ty : FieldType} {v : Value} (hn : narrow ty v = v) (hf : fits ty v = true) : narrow ty (cv x v) = cv x v ∧ fits ty (cv x v) = true := by
  cases v <;> first | exact ⟨hn, hf⟩ | (cases ty <;> first | exact ⟨rfl, hf⟩ | exact ⟨hn, hf⟩)
theorem cv_default (x : CX) (ty : FieldType) : cv x (defaultValue ty) = defaultValue ty := by cases ty <;> rfl
/-- the memory behind a write, over a heap in which one cell has changed -/
theorem Rep.put {x : CX} {M : Mem} {H H1 : Heap} {a : Nat} {f : Nat → Value} (h : Rep x M H) (ha : 2 ≤ a) (hz : H1.size = H.size) (ho : ∀ q : Nat, q ≠ ad x a → H1[q]? = H[q]?) (hc : rcell x a (M.2.1 a) f H1) : Rep x (wa M a f) H1 := by
  obtain ⟨h1, h2, h3, h4, h5, h6⟩ := h
  have hlow : ∀ q : Nat, q < xz x → H1[q]? = H[q]? := fun q hq => ho q (by rw [ad_hi x ha]; omega)
  refine ⟨h1, hz.trans h2, fun q hq => (hlow q hq).trans (h3 q hq), h4, fun b hb => ?_, fun b hb hk => ?_⟩
  · have hne : ¬ b = a := by omega
    simp only [wa, hne, if_false]
    exact h5 b hb
  · by_cases hba : b = a
    · subst hba
      simp only [wa, if_true]
      exact hc
    · simp only [wa, hba, if_false]
      have hr := h6 b hb hk
      have hq : H1[ad x b]? = H[ad x b]? := ho _ (fun e => hba (ad_inj x hb ha e))
      refine ⟨fun hlt => ?_, fun hge => ?_⟩
      · obtain ⟨r, g1, g2, g3⟩ := hr.1 hlt
        exact ⟨r, g1, g2, g3.kept hq⟩
      · obtain ⟨g1, g2⟩ := hr.2 hge
        exact ⟨g1, hq.trans g2⟩
theorem Rep.new {x : CX} {M : Mem} {H H1 : Heap} {kn : Nat × Nat} {f : Nat → Value} (h : Rep x M H) (hz : H1.size = H.size + 1) (ho : ∀ q : Nat, q < H.size → H1[q]? = H[q]?) (hc : rcell x M.1 kn f H1) : Rep x (nw M kn f) H1 := by
  obtain ⟨h1, h2, h3, h4, h5, h6⟩ := h
  refine ⟨by show 2 ≤ M.1 + 1; omega, by show H1.size = xz x + (M.1 + 1 - 2); omega, fun q hq => (ho q (by omega)).trans (h3 q hq), h4, fun b hb => ?_, fun b hb hk => ?_⟩
  · have hne : ¬ b = M.1 := by omega
    simp only [nw, hne, if_false]
    exact h5 b hb
  · by_cases hba : b = M.1
    · subst hba
      simp only [nw, if_true]
      exact hc
    · simp only [nw, hba, if_false] at hk ⊢
      have hr := h6 b hb hk
      refine ⟨fun hlt => ?_, fun hge => ?_⟩
      · obtain ⟨r, g1, g2, g3⟩ := hr.1 hlt
        obtain ⟨cell, q1, -⟩ := id g3
        exact ⟨r, g1, g2, g3.kept (ho _ (Array.getElem?_eq_some_iff.mp q1).1)⟩
      · obtain ⟨g1, g2⟩ := hr.2 hge
        exact ⟨g1, (ho _ (Array.getElem?_eq_some_iff.mp g2).1).trans g2⟩
theorem Rep.top {x : CX} {M : Mem} {H : Heap} (h : Rep x M H) : ad x M.1 = H.size := by rw [ad_hi x h.1, h.2.1]
theorem Rep.obj {x : CX} {M : Mem} {H : Heap} {a ci N : Nat} {r : vw_C} (h : Rep x M H) (hk : M.2.1 a = (ci, N)) (hr : vwCl[ci]? = some r) : 2 ≤ a ∧ r.2.2 = N ∧ t_OB (ad x a) ((xD x).1 ci) N ((xD x).2 ci) H (fun k => cv x (M.2.2 a k)) := by
  have hci := cl_lt hr
  have ha : 2 ≤ a := by
    rcases Nat.lt_or_ge a 2 with q | q
    · have := (h.2.2.2.2.1 a q).1
      rw [hk] at this
      have : ci = 20 := this
      omega
    · exact q
  have h6 := h.2.2.2.2.2 a ha (by rw [hk]; show ci ≠ 99; omega)
  rw [hk] at h6
  obtain ⟨r', g1, g2, g3⟩ := h6.1 (show ci < 20 by omega)
  cases hr.symm.trans g1
  exact ⟨ha, g2, g3⟩
/-- an array that is read -/
theorem Rep.iarr {x : CX} {M : Mem} {H : Heap} {a n : Nat} {s : State} (h : Rep x M H) (hK : KN x s) (hk : M.2.1 a = (20, n)) : ∃ cell : Cell, H[ad x a]? = some cell ∧ s.isArrayOf cell .int ∧ cell.vm ≠ .unknown ∧ cell.slots.size = n ∧ ∀ j : Nat, j < n → cell.slots[j]? = some (cv x (M.2.2 a j)) := by
  rcases Nat.lt_or_ge a 2 with q | q
  · obtain ⟨-, cell, g1, g2, g3, g4⟩ := h.2.2.2.2.1 a q
    rw [hk] at g3 g4
    have hlt : ad x a < xz x := by
      unfold ad
      rcases (show a = 0 ∨ a = 1 by omega) with rfl | rfl
      · exact h.2.2.2.1.1
      · exact h.2.2.2.1.2
    exact ⟨cell, (h.2.2.1 _ hlt).trans g1, hK.2.1 a q cell g1, g2, g3, g4⟩
  · have h6 := h.2.2.2.2.2 a q (by rw [hk]; show (20 : Nat) ≠ 99; decide)
    rw [hk] at h6
    obtain ⟨-, g2⟩ := h6.2 (Nat.le_refl 20)
    refine ⟨_, g2, ?_, (fun e => by cases e), arrV_size _ _ _, fun j hj => arrV_read _ _ hj⟩
    exact (hK.1.2 0 (xA x 20, akT 20) rfl).1 n _
theorem Rep.arr2 {x : CX} {M : Mem} {H : Heap} {a k n : Nat} (h : Rep x M H) (ha : 2 ≤ a) (h20 : 20 ≤ k) (h25 : k < 25) (hk : M.2.1 a = (k, n)) : H[ad x a]? = some (arrV (xA x k) n (fun j => cv x (M.2.2 a j))) := by
  have h6 := h.2.2.2.2.2 a ha (by rw [hk]; show k ≠ 99; omega)
  rw [hk] at h6
  exact (h6.2 h20).2
theorem xT_at {x : CX} {k : Nat} (h20 : 20 ≤ k) (h25 : k < 25) : (xT x)[k - 20]? = some (xA x k, akT k) := by
  rcases (show k = 20 ∨ k = 21 ∨ k = 22 ∨ k = 23 ∨ k = 24 by omega) with rfl | rfl | rfl | rfl | rfl <;> rfl
def ckF (own : String) (idx ci k : Nat) : Bool := match vwCl[ci]? with
  | some r => decide (k < r.2.2) && decide (Cond.fieldLink own idx (r.2.1 k).1 (r.2.1 k).2.1 (r.2.1 k).2.2.1 ∈ lw_tbl)
  | none => false
theorem ckF_ok {own : String} {idx ci k : Nat} (h : ckF own idx ci k = true) : ∃ r : vw_C, vwCl[ci]? = some r ∧ k < r.2.2 ∧ Cond.fieldLink own idx (r.2.1 k).1 (r.2.1 k).2.1 (r.2.1 k).2.2.1 ∈ gtbl := by
  unfold ckF at h
  cases hr : vwCl[ci]? with
  | none => simp [hr] at h
  | some r =>
    simp only [hr, Bool.and_eq_true, decide_eq_true_eq] at h
    exact ⟨r, rfl, h.1, gtbl_of h.2 rfl⟩
/-- the field may be written anywhere -/
def ckP (ci k : Nat) : Bool := match vwCl[ci]? with
  | some r => (r.2.1 k).2.2.2 == false
  | none => false
/-- the field is final and of this class -/
def ckQ (own : String) (ci k : Nat) : Bool := match vwCl[ci]? with
  | some r => (r.2.1 k).2.2.2 == true && decide ((r.2.1 k).1 = own)
  | none => false
section
variable {Y : YY} {R : Room} {Q : Option Value → Mem → Prop} {ls : List (Option Value)} {st : List Value} {M : Mem} {cs ss : Nat}
theorem aw_get (pc : Nat) {a ci N k idx : Nat} {v : Value} (hd : decode Y.2.1 pc = .ok (.getfield idx, 3)) (ck : ckF Y.1.cls idx ci k = true) (hk : M.2.1 a = (ci, N)) (hv : M.2.2 a k = v) (kk : AW Y R Q (pc + 3) ls (v :: st) M cs ss) : AW Y R Q pc ls (.ref a :: st) M cs ss := by
  intro x p e s m args below meth c H locs la hC hR hL hq
  obtain ⟨hx, hb, hml, hr, hown, hts, hlocks, hnm, hK, hsz⟩ := id hC
  obtain ⟨r, hr1, hkN, hlk⟩ := ckF_ok ck
  obtain ⟨ha, hN, cell, q1, q2, q3, q4⟩ := hR.obj hk hr1
  obtain ⟨hS, hfc, kC, hkC, hkind⟩ := hK.1.1 ci r hr1
  obtain ⟨cf, kf, fi, f, hi, hsl⟩ := hS k hkN
  refine W.getf hx hb hown (hts _ hlk) hi (u_facts hfc hkC (u_lays hts (cl_in hr1) hkN) hi).1 q1 (by rw [q3]; exact fun h => by cases h) (v := cv x v) ?_ rfl rfl hd (kk x p e s m args below meth c H locs la hC hR hL hq)
  rw [hsl, q4 k (hN ▸ hkN), ← hv]
theorem aw_put (pc : Nat) {a ci N k idx : Nat} {v : Value} (hd : decode Y.2.1 pc = .ok (.putfield idx, 3)) (ck : ckF Y.1.cls idx ci k = true) (cp : ckP ci k = true) (hk : M.2.1 a = (ci, N)) (hn : narrow (tyCl ci k) v = v) (hf : fits (tyCl ci k) v = true) (kk : AW Y R Q (pc + 3) ls st (wr M a k v) cs ss) : AW Y R Q pc ls (v :: .ref a :: st) M cs ss := by
  intro x p e s m args below meth c H locs la hC hR hL hq
  obtain ⟨hx, hb, hml, hr, hown, hts, hlocks, hnm, hK, hsz⟩ := id hC
  obtain ⟨r, hr1, hkN, hlk⟩ := ckF_ok ck
  have hfin : (r.2.1 k).2.2.2 = false := by
    unfold ckP at cp
    simpa [hr1] using cp
  obtain ⟨ha, hN, cell, q1, q2, q3, q4⟩ := hR.obj hk hr1
  subst hN
  have hap := va_apart (own := Y.1.cls) hts (cl_in hr1) (tyCl ci) (cl_ty hr1) (cl_nm hr1) hK.1 hr1
  obtain ⟨hS, hfc, kC, hkC, hkind⟩ := hK.1.1 ci r hr1
  obtain ⟨cf, kf, fi, f, hi, hsl⟩ := hS k hkN
  have hlay := hts _ (cl_in hr1 _ (u_in_lay hkN))
  unfold u_lay at hlay
  rw [if_neg (by rw [hfin]; decide)] at hlay
  have hst := (u_facts hfc hkC (u_lays hts (cl_in hr1) hkN) hi).1
  obtain ⟨hn', hf'⟩ := cv_ok x hn hf
  have h6 := u_store hfc hkC hkind hlay hi (cl_ty hr1 k hkN) hn' hf'
  refine W.putK hx hb (f := f) ⟨hown, hts _ hlk, ⟨_, _, _, hi⟩, hst⟩ (by rw [q2]; exact h6) q1 q3 (by rw [hsl]; exact k2_hasslot (q4 k hkN)) rfl rfl hd fun H' e1 e2 e3 => ?_
  rw [hsl] at e1 ⊢
  refine kk x p e s m args below meth c H' _ la hC (hR.put ha e2 e3 ⟨fun _ => ?_, fun h => ?_⟩) hL ?_
  · rw [hk]
    exact ⟨r, hr1, rfl, t_OB.to (V := updV (fun k => cv x (M.2.2 a k)) k (cv x v)) ⟨_, e1, q2, q3, t_set q4 hap hkN _⟩ (fun j _ => by by_cases hj : j = k <;> simp [updV, up, hj])⟩
  · rw [hk] at h
    have := cl_lt hr1
    have h : 20 ≤ ci := h
    omega
  · intro q hq1
    rcases List.mem_append.mp hq1 with h | h
    · exact hq q h
    · rw [List.mem_singleton.mp h]
      show xz x ≤ ad x a
      rw [ad_hi x ha]
      omega
theorem aw_putF (pc : Nat) {a ci N k idx : Nat} {v : Value} (hd : decode Y.2.1 pc = .ok (.putfield idx, 3)) (ck : ckF Y.1.cls idx ci k = true) (cp : ckQ Y.1.cls ci k = true) (hin : Y.1.name = "<init>") (hk : M.2.1 a = (ci, N)) (hn : narrow (tyCl ci k) v = v) (hf : fits (tyCl ci k) v = true) (kk : AW Y R Q (pc + 3) ls st (wr M a k v) cs ss) : AW Y R Q pc ls (v :: .ref a :: st) M cs ss := by
  intro x p e s m args below meth c H locs la hC hR hL hq
  obtain ⟨hx, hb, hml, hr, hown, hts, hlocks, hnm, hK, hsz⟩ := id hC
  obtain ⟨r, hr1, hkN, hlk⟩ := ckF_ok ck
  have hfd : (r.2.1 k).2.2.2 = true ∧ (r.2.1 k).1 = Y.1.cls := by
    unfold ckQ at cp
    simpa [hr1] using cp
  obtain ⟨hfin, hdecl⟩ := hfd
  obtain ⟨ha, hN, cell, q1, q2, q3, q4⟩ := hR.obj hk hr1
  subst hN
  have hap := va_apart (own := Y.1.cls) hts (cl_in hr1) (tyCl ci) (cl_ty hr1) (cl_nm hr1) hK.1 hr1
  obtain ⟨hS, hfc, kC, hkC, hkind⟩ := hK.1.1 ci r hr1
  obtain ⟨cf, kf, fi, f, hi, hsl⟩ := hS k hkN
  have hlay := hts _ (cl_in hr1 _ (u_in_lay hkN))
  unfold u_lay at hlay
  rw [if_pos hfin] at hlay
  have hst := (u_facts hfc hkC (u_lays hts (cl_in hr1) hkN) hi).1
  have hcf : m.cls = cf := by
    obtain ⟨_, _, c', _, _, _, -, -, hf', -, -, -, hown2, -⟩ := Cond.laysFinal_spec hlay
    have e1 : c' = cf := by have := hi.symm.trans hf'; simp at this; exact this.1.symm
    rw [hdecl] at hown2
    rw [← e1]; exact Option.some.inj (hown.symm.trans hown2)
  obtain ⟨hn', hf'⟩ := cv_ok x hn hf
  have h6 := u_fits hfc hkC hkind (Or.inr hlay) hi (cl_ty hr1 k hkN) hn' hf'
  refine W.putFinK hx hb hown (hts _ hlk) hi hst hcf (hnm.trans hin) (by rw [q2]; exact h6) q1 q3 (by rw [hsl]; exact k2_hasslot (q4 k hkN)) rfl rfl hd fun H' e1 e2 e3 => ?_
  rw [hsl] at e1 ⊢
  refine kk x p e s m args below meth c H' _ la hC (hR.put ha e2 e3 ⟨fun _ => ?_, fun h => ?_⟩) hL ?_
  · rw [hk]
    exact ⟨r, hr1, rfl, t_OB.to (V := updV (fun k => cv x (M.2.2 a k)) k (cv x v)) ⟨_, e1, q2, q3, t_set q4 hap hkN _⟩ (fun j _ => by by_cases hj : j = k <;> simp [updV, up, hj])⟩
  · rw [hk] at h
    have := cl_lt hr1
    have h : 20 ≤ ci := h
    omega
  · intro q hq1
    rcases List.mem_append.mp hq1 with h | h
    · exact hq q h
    · rw [List.mem_singleton.mp h]
      show xz x ≤ ad x a
      rw [ad_hi x ha]
      omega
theorem aw_iald (pc : Nat) {a n : Nat} {i : Int32} {v : Value} (j : Nat) (hd : decode Y.2.1 pc = .ok (.iaload, 1)) (hk : M.2.1 a = (20, n)) (hi : i = nI j) (hj : j < n) (hn : n < 2 ^ 31) (hv : M.2.2 a j = v) (kk : AW Y R Q (pc + 1) ls (v :: st) M cs ss) : AW Y R Q pc ls (.int i :: .ref a :: st) M cs ss := by
  intro x p e s m args below meth c H locs la hC hR hL hq
  obtain ⟨cell, g1, g2, g3, g4, g5⟩ := hR.iarr hC.2.2.2.2.2.2.2.2.1 hk
  subst hi
  have hc := nI_clamp (n := j) (by omega)
  refine W.iald (v := cv x v) hC.1 hC.2.1 g1 g2 g3 (by rw [g4]; exact nI_in hj hn) (by rw [hc, g5 j hj, hv]) rfl rfl hd (kk x p e s m args below meth c H locs la hC hR hL hq)
theorem aw_alen (pc : Nat) {a n : Nat} (hd : decode Y.2.1 pc = .ok (.arraylength, 1)) (hk : M.2.1 a = (20, n)) (kk : AW Y R Q (pc + 1) ls (.int (nI n) :: st) M cs ss) : AW Y R Q pc ls (.ref a :: st) M cs ss := by
  intro x p e s m args below meth c H locs la hC hR hL hq
  obtain ⟨cell, g1, g2, g3, g4, g5⟩ := hR.iarr hC.2.2.2.2.2.2.2.2.1 hk
  exact W.alen (n := nI n) hC.1 hC.2.1 g1 g2 (by rw [g4]; rfl) rfl rfl hd (kk x p e s m args below meth c H locs la hC hR hL hq)
theorem aw_iast (pc : Nat) {a n : Nat} {i w : Int32} (j : Nat) (hd : decode Y.2.1 pc = .ok (.iastore, 1)) (hk : M.2.1 a = (20, n)) (ha : 2 ≤ a) (hi : i = nI j) (hj : j < n) (hn : n < 2 ^ 31) (kk : AW Y R Q (pc + 1) ls st (wr M a j (.int w)) cs ss) : AW Y R Q pc ls (.int w :: .int i :: .ref a :: st) M cs ss := by
  intro x p e s m args below meth c H locs la hC hR hL hq
  have g1 := hR.arr2 ha (Nat.le_refl 20) (by omega) hk
  have hK := hC.2.2.2.2.2.2.2.2.1
  subst hi
  have hc := nI_clamp (n := j) (by omega)
  refine W.iast hC.1 hC.2.1 g1 ((hK.1.2 0 (xA x 20, akT 20) rfl).1 n _) (fun q => by cases q) (by rw [arrV_size]; exact nI_in hj hn) rfl rfl hd fun H1 e1 e2 e3 => ?_
  rw [hc] at e1 ⊢
  refine kk x p e s m args below meth c H1 _ la hC (hR.put ha e2 e3 ⟨fun h => ?_, fun h => ?_⟩) hL ?_
  · rw [hk] at h
    exact absurd (show (20 : Nat) < 20 from h) (Nat.lt_irrefl _)
  · rw [hk]
    refine ⟨by show (20 : Nat) < 25; decide, ?_⟩
    rw [e1, arrV_store]
    congr 2
    funext q
    by_cases hqj : q = j <;> simp [updV, up, hqj, cv]
  · intro q hq1
    rcases List.mem_append.mp hq1 with h | h
    · exact hq q h
    · rw [List.mem_singleton.mp h]
      show xz x ≤ ad x a
      rw [ad_hi x ha]
      omega
theorem akT_ref {k : Nat} (h21 : 21 ≤ k) (h25 : k < 25) : (akT k).isReference = true := by
  rcases (show k = 21 ∨ k = 22 ∨ k = 23 ∨ k = 24 by omega) with rfl | rfl | rfl | rfl <;> rfl
theorem aw_aald (pc : Nat) {a k n : Nat} {i : Int32} {v : Value} (j : Nat) (hd : decode Y.2.1 pc = .ok (.aaload, 1)) (hk : M.2.1 a = (k, n)) (ha : 2 ≤ a) (hkk : 21 ≤ k ∧ k < 25) (hi : i = nI j) (hj : j < n) (hn : n < 2 ^ 31) (hv : M.2.2 a j = v) (kk : AW Y R Q (pc + 1) ls (v :: st) M cs ss) : AW Y R Q pc ls (.int i :: .ref a :: st) M cs ss := by
  intro x p e s m args below meth c H locs la hC hR hL hq
  have g1 := hR.arr2 ha (by omega) hkk.2 hk
  have hK := hC.2.2.2.2.2.2.2.2.1
  subst hi
  have hc := nI_clamp (n := j) (by omega)
  refine W.aald (v := cv x v) (ty := akT k) hC.1 hC.2.1 g1 ((hK.1.2 (k - 20) (xA x k, akT k) (xT_at (by omega) hkk.2)).1 n _) (akT_ref hkk.1 hkk.2) (fun q => by cases q) (by rw [arrV_size]; exact nI_in hj hn) (by rw [hc, arrV_read _ _ hj, hv]) rfl rfl hd (kk x p e s m args below meth c H locs la hC hR hL hq)
/-- which objects an array of a kind holds -/
def akC (k : Nat) : Nat := match k with
  | 21 => 3
  | 22 => 1
  | 23 => 2
  | _ => 5
theorem akC_ok {k : Nat} (h21 : 21 ≤ k) (h25 : k < 25) : ∃ r : vw_C, vwCl[akC k]? = some r ∧ akT k = .object r.1 := by
  rcases (show k = 21 ∨ k = 22 ∨ k = 23 ∨ k = 24 by omega) with rfl | rfl | rfl | rfl
  · exact ⟨_, rfl, rfl⟩
  · exact ⟨_, rfl, rfl⟩
  · exact ⟨_, rfl, rfl⟩
  · exact ⟨_, rfl, rfl⟩
theorem aw_aast (pc : Nat) {a k n w N : Nat} {i : Int32} (j : Nat) (hd : decode Y.2.1 pc = .ok (.aastore, 1)) (hk : M.2.1 a = (k, n)) (ha : 2 ≤ a) (hkk : 21 ≤ k ∧ k < 25) (hw : M.2.1 w = (akC k, N)) (hi : i = nI j) (hj : j < n) (hn : n < 2 ^ 31) (kk : AW Y R Q (pc + 1) ls st (wr M a j (.ref w)) cs ss) : AW Y R Q pc ls (.ref w :: .int i :: .ref a :: st) M cs ss := by
  intro x p e s m args below meth c H locs la hC hR hL hq
  have g1 := hR.arr2 ha (by omega) hkk.2 hk
  have hK := hC.2.2.2.2.2.2.2.2.1
  subst hi
  have hc := nI_clamp (n := j) (by omega)
  obtain ⟨r, hr1, hr2⟩ := akC_ok hkk.1 hkk.2
  obtain ⟨hw2, hN, cellV, v1, v2, v3, -⟩ := hR.obj hw hr1
  have hcls := (hK.1.1 (akC k) r hr1).2
  have hRA := (hK.1.2 (k - 20) (xA x k, akT k) (xT_at (by omega) hkk.2)).2
  rw [show ((xA x k, akT k) : ClassId × FieldType).2 = .object r.1 from hr2] at hRA
  obtain ⟨kA, comp, k1, k2, k3, -⟩ := hRA
  have hcomp : comp = (xD x).1 (akC k) := Option.some.inj (k3.symm.trans hcls.1)
  subst hcomp
  obtain ⟨kC, hkC, -⟩ := hcls.2
  refine W.aast hC.1 hC.2.1 g1 (fun q h => by cases h) (fun h => by cases h) k1 k2 rfl hkC ⟨nI_pos (by omega), by rw [arrV_size, hc]; exact hj⟩ v1 (fun q h => by rw [v3] at h; cases h) (by rw [v2]; exact hkC) (by rw [v2]; exact va_assign hcls) rfl rfl hd fun H1 e1 e2 e3 => ?_
  rw [hc] at e1 ⊢
  refine kk x p e s m args below meth c H1 _ la hC (hR.put ha e2 e3 ⟨fun h => ?_, fun h => ?_⟩) hL ?_
  · rw [hk] at h
    have h : k < 20 := h
    omega
  · rw [hk]
    refine ⟨hkk.2, ?_⟩
    rw [e1, arrV_store]
    congr 2
    funext q
    by_cases hqj : q = j <;> simp [updV, up, hqj, cv]
  · intro q hq1
    rcases List.mem_append.mp hq1 with h | h
    · exact hq q h
    · rw [List.mem_singleton.mp h]
      show xz x ≤ ad x a
      rw [ad_hi x ha]
      omega
def ckN (own : String) (idx ci : Nat) : Bool := match vwCl[ci]? with
  | some r => decide (Cond.classLink own idx r.1 ∈ lw_tbl) && decide (Cond.instantiable r.1 r.2.2 ∈ lw_tbl) && decide (Cond.initialized r.1 ∈ lw_tbl)
  | none => false
theorem aw_new (pc : Nat) {ci idx : Nat} (N : Nat) (hd : decode Y.2.1 pc = .ok (.new idx, 3)) (ck : ckN Y.1.cls idx ci = true) (hN : (vwCl[ci]?.map fun r => r.2.2) = some N) (hc : cs + 1 ≤ R.cells) (hs : ss + N ≤ R.slots) (kk : AW Y R Q (pc + 3) ls (.ref M.1 :: st) (nw M (ci, N) (fun k => defaultValue (tyCl ci k))) (cs + 1) (ss + N)) : AW Y R Q pc ls st M cs ss := by
  intro x p e s m args below meth c H locs la hC hR hL hq
  obtain ⟨hx, hb, hml, hr, hown, hts, hlocks, hnm, hK, hsz⟩ := id hC
  cases hr1 : vwCl[ci]? with
  | none => simp [hr1] at hN
  | some r =>
    have hN : r.2.2 = N := by simpa [hr1] using hN
    subst hN
    unfold ckN at ck
    simp only [hr1, Bool.and_eq_true, decide_eq_true_eq] at ck
    have hKn := hK.1.1 ci r hr1
    refine W.newcK hx hb hown (hts _ (gtbl_of ck.1.1 rfl)) (hts _ (gtbl_of ck.1.2 rfl)) (hts _ (gtbl_of ck.2 rfl)) rfl hd hc hs hKn.2.1 rfl fun H1 kC hkC e1 z1 o1 => ?_
    have hb1 := u_born (tyCl ci) hts (cl_in hr1) hKn hkC e1 (cl_ty hr1)
    have htop := hR.top
    rw [← htop] at hb1 ⊢
    refine kk x p e s m args below meth c H1 locs la hC (hR.new (by rw [z1]) o1 ⟨fun _ => ⟨r, hr1, rfl, hb1.to (fun j _ => (cv_default x _).symm)⟩, fun h => ?_⟩) hL hq
    have := cl_lt hr1
    have h : 20 ≤ ci := h
    omega
theorem aw_newa (pc : Nat) {n : Int32} (N : Nat) (hd : decode Y.2.1 pc = .ok (.newarray .int, 2)) (hn : n = nI N) (hN : N < 100000) (hc : cs + 1 ≤ R.cells) (hs : ss + N ≤ R.slots) (kk : AW Y R Q (pc + 2) ls (.ref M.1 :: st) (nw M (20, N) (fun _ => .int 0)) (cs + 1) (ss + N)) : AW Y R Q pc ls (.int n :: st) M cs ss := by
  intro x p e s m args below meth c H locs la hC hR hL hq
  obtain ⟨hx, hb, hml, hr, hown, hts, hlocks, hnm, hK, hsz⟩ := id hC
  subst hn
  have hcl := nI_clamp (n := N) (by omega)
  refine va_newaK hx hb (atype := .int) (hts _ (gtbl_of (by decide +kernel) rfl)) rfl hd rfl (nI_pos (by omega)) hcl (by show N * 4 ≤ 536870912; omega) hc hs rfl fun H1 cA e1 z1 o1 hAr hnm1 => ?_
  have hcA : cA = xA x 20 := Option.some.inj (hnm1.symm.trans (hK.1.2 0 (xA x 20, akT 20) rfl).2)
  subst hcA
  have htop := hR.top
  rw [← htop] at e1 ⊢
  refine kk x p e s m args below meth c H1 locs la hC (hR.new z1 o1 ⟨fun h => absurd (show (20 : Nat) < 20 from h) (Nat.lt_irrefl _), fun _ => ⟨by show (20 : Nat) < 25; decide, e1⟩⟩) hL hq
def ckA (own : String) (idx k : Nat) : Bool := match akT k with
  | .object C => decide (Cond.classLink own idx C ∈ lw_tbl) && decide (C ∈ overs)
  | _ => false
theorem aw_anew (pc : Nat) {n : Int32} {idx : Nat} (k N : Nat) (hd : decode Y.2.1 pc = .ok (.anewarray idx, 3)) (ck : ckA Y.1.cls idx k = true) (hkk : 21 ≤ k ∧ k < 25) (hn : n = nI N) (hN : N < 100000) (hc : cs + 1 ≤ R.cells) (hs : ss + N ≤ R.slots) (kk : AW Y R Q (pc + 3) ls (.ref M.1 :: st) (nw M (k, N) (fun _ => .null)) (cs + 1) (ss + N)) : AW Y R Q pc ls (.int n :: st) M cs ss := by
  intro x p e s m args below meth c H locs la hC hR hL hq
  obtain ⟨hx, hb, hml, hr, hown, hts, hlocks, hnm, hK, hsz⟩ := id hC
  subst hn
  have hcl := nI_clamp (n := N) (by omega)
  obtain ⟨r, hr1, hr2⟩ := akC_ok hkk.1 hkk.2
  unfold ckA at ck
  rw [hr2] at ck
  simp only [Bool.and_eq_true, decide_eq_true_eq] at ck
  refine W.anew hx hb hown (hts _ (gtbl_of ck.1 rfl)) (va_AO.use (hK.2.2.2.2.1 _ ck.2)) rfl hd rfl (nI_pos (by omega)) (by rw [hcl]; omega) hc (by rw [hcl]; exact hs) fun cA kA comp f1 f2 f3 f4 => ?_
  have hRA := (hK.1.2 (k - 20) (xA x k, akT k) (xT_at (by omega) hkk.2)).2
  rw [show ((xA x k, akT k) : ClassId × FieldType).2 = .object r.1 from hr2] at hRA
  obtain ⟨-, -, -, -, -, k4⟩ := hRA
  have hcA : cA = xA x k := Option.some.inj (f1.symm.trans k4)
  subst hcA
  rw [hcl]
  have htop := hR.top
  rw [← htop]
  generalize hH1 : H.push ({ cls := xA x k, slots := Array.replicate N .null, vm := .none } : Cell) = H1
  have z1 : H1.size = H.size + 1 := by rw [← hH1, Array.size_push]
  have e1 : H1[H.size]? = some (arrV (xA x k) N (fun _ => .null)) := by rw [← hH1, Array.getElem?_push_size, ← arrV_new]
  have o1 : ∀ q : Nat, q < H.size → H1[q]? = H[q]? := fun q hq => by rw [← hH1, Array.getElem?_push, if_neg (Nat.ne_of_lt hq)]
  refine kk x p e s m args below meth c H1 locs la hC (hR.new z1 o1 ⟨fun h => ?_, fun _ => ⟨hkk.2, by rw [htop]; exact e1⟩⟩) hL hq
  have h : k < 20 := h
  omega
theorem aw_gets (pc : Nat) {idx : Nat} (hd : decode Y.2.1 pc = .ok (.getstatic idx, 3)) (ck : (Y.1.cls, idx) ∈ nestF) (kk : AW Y R Q (pc + 3) ls (.ref 1 :: st) M cs ss) : AW Y R Q pc ls st M cs ss := by
  intro x p e s m args below meth c H locs la hC hR hL hq
  obtain ⟨hx, hb, hml, hr, hown, hts, hlocks, hnm, hK, hsz⟩ := id hC
  have hZ := hK.2.2.2.2.2.2.2
  obtain ⟨cf, kf, fi, f, a, cell, h1, h2, h3, h4, h5, h6, h7, h8⟩ := hZ
  have ha : a < xz x := Nat.not_le.mp h8
  intro T hT X
  obtain ⟨vm', X', stp⟩ := X.getstaticNest hx hown (va_Nw.use rfl (hK.2.2.2.1 _ ck)) h1 h2 h3 h4 (by rw [hT, hR.2.2.1 a ha]; exact h5) (fun e => by rw [e] at h6; cases h6) h7 (g := F0 m pc la (st.map (cv x))) rfl (by rw [hb]; exact hd)
  obtain ⟨t, a1, b1⟩ := kk x p e s m args below meth c H locs la hC hR hL hq (T.setVm vm') hT X'
  exact ⟨t, stp t a1, b1⟩
theorem aw_ldc2 (pc : Nat) {idx : Nat} (v : Int64) (hd : decode Y.2.1 pc = .ok (.ldc2_w idx, 3)) (ck : Cond.constantLong Y.1.cls idx v ∈ lw_tbl) (kk : AW Y R Q (pc + 3) ls (.long v :: st) M cs ss) : AW Y R Q pc ls st M cs ss :=
  fun x p e s m args below meth c H locs la hC hR hL hq => lv_ldc2 hC.1 hC.2.1 hC.2.2.2.2.1 (hC.2.2.2.2.2.1 _ (gtbl_of ck rfl)) hd (kk x p e s m args below meth c H locs la hC hR hL hq)
end
