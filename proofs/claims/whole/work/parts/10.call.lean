/-! calls -/
theorem cat_sum (x : CX) (st : List Value) : ((st.map (cv x)).map fun v => v.category).sum = (st.map fun v => v.category).sum := by
  rw [List.map_map]
  congr 1
  exact List.map_congr_left (fun v _ => cv_cat x v)
theorem ret_st (x : CX) (r : Option Value) (st : List Value) : (r.toList ++ st).map (cv x) = (r.map (cv x)).toList ++ st.map (cv x) := by cases r <;> rfl
def ckC (Y : YY) (n : Nat) : Bool := decide (Cond.initialized Y.1.cls ∈ lw_tbl) && decide (Y.1.cls ≠ "java/lang/invoke/MethodHandle") && decide (Y.1.cls ≠ "java/lang/invoke/VarHandle") && decide ((parseMethodDescriptor Y.1.desc).map (fun d => d.parameters.length) = some n)
def inTbl (Y : YY) : Prop := Cond.code Y.1 Y.2.1 Y.2.2.1 Y.2.2.2 ∈ lw_tbl
theorem wsY_good {Y : YY} (h : inTbl Y) : GoodIn gtbl (wsY Y) := by
  intro w hw
  rcases List.mem_cons.mp hw with rfl | hw
  · exact ⟨gtbl_of h rfl, good_of_word rfl⟩
  · exact gtbl_good w hw
theorem ckC_ok {Y : YY} {n : Nat} (h : ckC Y n = true) : Cond.initialized Y.1.cls ∈ gtbl ∧ (Y.1.cls ≠ "java/lang/invoke/MethodHandle" ∧ Y.1.cls ≠ "java/lang/invoke/VarHandle" ∧ (parseMethodDescriptor Y.1.desc).map (fun d => d.parameters.length) = some n) := by
  unfold ckC at h
  simp only [Bool.and_eq_true, decide_eq_true_eq] at h
  exact ⟨gtbl_of h.1.1.1 rfl, h.1.1.2, h.1.2, h.2⟩
def ckS (own : String) (idx : Nat) (Y : YY) (n : Nat) : Bool := ckC Y n && decide (Cond.methodLink own idx Y.1 ∈ lw_tbl) && decide (Cond.static Y.1 ∈ lw_tbl)
def ckV (own : String) (idx : Nat) (Y : YY) (n : Nat) : Bool := ckC Y n && decide (Cond.methodLink own idx Y.1 ∈ lw_tbl) && decide (Cond.instanceMethod Y.1 ∈ lw_tbl) && decide (Cond.selects Y.1.cls Y.1 Y.1 ∈ lw_tbl)
def ckI (own : String) (idx : Nat) (Y : YY) (n : Nat) : Bool := ckC Y n && decide (Cond.methodLink own idx Y.1 ∈ lw_tbl) && decide (Cond.instanceMethod Y.1 ∈ lw_tbl) && decide (Y.1.name = "<init>")
def ckSN (own : String) (idx : Nat) (Y : YY) (n : Nat) : Bool := ckC Y n && decide ((own, idx, Y.1) ∈ nestM) && decide (Cond.static Y.1 ∈ lw_tbl)
def ckIN (own : String) (idx : Nat) (Y : YY) (n : Nat) : Bool := ckC Y n && decide ((own, idx, Y.1) ∈ nestM) && decide (Cond.instanceMethod Y.1 ∈ lw_tbl) && decide (Y.1.name = "<init>")
/-- an overriding method: x is named, class C's objects run Y, owner declares x -/
def ckU (own : String) (idx : Nat) (C owner : String) (y : MethodName) (Y : YY) (n : Nat) : Bool := decide (Cond.initialized Y.1.cls ∈ lw_tbl) && decide (owner ≠ "java/lang/invoke/MethodHandle") && decide (owner ≠ "java/lang/invoke/VarHandle") && decide ((parseMethodDescriptor y.desc).map (fun d => d.parameters.length) = some n) && decide (Cond.methodLink own idx y ∈ lw_tbl) && decide (Cond.sameMethod y.cls owner y.name y.desc ∈ lw_tbl) && decide (Cond.selects C y Y.1 ∈ lw_tbl) && decide (Cond.instanceMethod Y.1 ∈ lw_tbl) && decide (Cond.instanceMethod ⟨owner, y.name, y.desc⟩ ∈ lw_tbl)
def ckSU (own : String) (idx : Nat) (Y : YY) (n : Nat) : Bool := decide (Cond.initialized Y.1.cls ∈ lw_tbl) && decide (Y.1.name ≠ "<init>") && decide ((parseMethodDescriptor Y.1.desc).map (fun d => d.parameters.length) = some n) && decide (Cond.methodLink own idx Y.1 ∈ lw_tbl) && decide (Cond.sameMethod Y.1.cls Y.1.cls Y.1.name Y.1.desc ∈ lw_tbl) && decide (Cond.superclass own Y.1.cls ∈ lw_tbl) && decide (Cond.instanceMethod Y.1 ∈ lw_tbl)
section
variable {p : Program} {e : Env} {s : State} {m : MethodId} {args : Array Value} {below : List Frame} {meth : Method} {c : Code} {H : Heap} {locs : List Loc} {la : Array Slot}
variable {Y Z : YY} {R rm : Room} {Q Q' : Option Value → Mem → Prop} {ls : List (Option Value)} {st st0 : List Value} {M : Mem} {cs ss : Nat} {as : List Value} {x : CX} {pc : Nat}
theorem pre_S (hC : CT x Y p s m args meth c) (hR : Rep x M H) : PreS s H (fun v U => v = (as.map (cv x)).toArray ∧ KN x U ∧ xz x ≤ U.heap.size ∧ Rep x M U.heap) (as.map (cv x)) := by
  refine ⟨fun a U g mk q => ⟨q.1, q.2.1.same rfl, q.2.2.1, q.2.2.2⟩, fun U hU hW => ⟨rfl, hC.2.2.2.2.2.2.2.2.1.moved hW, ?_, ?_⟩⟩
  · rw [hU, hR.2.1]
    omega
  · rw [hU]
    exact hR
/-- behind a call's run -/
theorem aw_behind (hC : CT x Y p s m args meth c) (hL : LV0 x la ls Y.2.2.1) (hq : ∀ q ∈ locs, xz x ≤ q.base) {b : Array Value}
    (run : va_Run p (xl x) e R s m args below meth c H locs cs ss rm.cells rm.slots (F0 m pc la (st0.map (cv x))) (st.map (cv x)) (QC x Q' b) (fun q => xz x ≤ q))
    (kk : ∀ r M', Q' r M' → AW Y R Q (pc + 3) ls (r.toList ++ st) M' (cs + rm.cells) (ss + rm.slots)) :
    W p (xl x) e R s m args below meth c H locs cs ss (MQ below (QC x Q) args s R.cells R.slots (fun q => xz x ≤ q)) (F0 m pc la (st0.map (cv x))) := by
  intro T hT X
  obtain ⟨v, st₀, t, T', L, h0, X', hL', e1, e2, ⟨r, M', hv, hQ, hR'⟩, stp⟩ := run T hT X
  cases hv
  have hk := kk r M' hQ x p e s m args below meth c T'.heap (locs ++ L) la hC (e1 ▸ hR') hL (fun q h => (List.mem_append.mp h).elim (hq q) (hL' q)) T' rfl X'
  rw [ret_st] at hk
  obtain ⟨t2, a1, b1⟩ := hk
  exact ⟨t2, stp t2 a1, b1⟩
end
section
variable {Y Z : YY} {R rm : Room} {Q Q' : Option Value → Mem → Prop} {ls : List (Option Value)} {st st0 : List Value} {M : Mem} {cs ss : Nat} {as : List Value}
/-- the room that a call takes -/
def rmOK (R rm : Room) (Z : YY) (cs ss : Nat) : Prop := (rm.frames + 1 ≤ R.frames ∧ 8 + (Z.2.2.1 + 11) + rm.locals ≤ R.locals) ∧ cs + rm.cells ≤ R.cells ∧ ss + rm.slots ≤ R.slots
theorem aw_static (pc : Nat) {idx : Nat} (hd : decode Y.2.1 pc = .ok (.invokestatic idx, 3)) (ck : ckS Y.1.cls idx Z as.length = true) (hcd : inTbl Z) (hM : AM Z rm as M Q') (hst : st0 = as.reverse ++ st) (hw : (st.map fun v => v.category).sum ≤ 8) (hR1 : rmOK R rm Z cs ss)
    (kk : ∀ r M', Q' r M' → AW Y R Q (pc + 3) ls (r.toList ++ st) M' (cs + rm.cells) (ss + rm.slots)) : AW Y R Q pc ls st0 M cs ss := by
  intro x p e s m args below meth c H locs la hC hR hL hq
  obtain ⟨hx, hb, hml, hr, hown, hts, hlocks, hnm, hK, hsz⟩ := id hC
  unfold ckS at ck
  simp only [Bool.and_eq_true, decide_eq_true_eq] at ck
  obtain ⟨hini, hdd⟩ := ckC_ok ck.1.1
  refine aw_behind hC hL hq (va_runS (n := as.length) ⟨hx, hb, hml, hown, hts⟩ (hM x) ⟨callB_of as.length hts (wsY_good hcd) rfl rfl rfl (hts _ hini) (hts _ (gtbl_of ck.1.2 rfl)) hdd hR1.1, hts _ (gtbl_of ck.2 rfl)⟩ (pre_S hC hR) rfl (by simp) hL.2.1 (by subst hst; simp) (lv_room (by rw [cat_sum]; exact hw)) hd hR1.2) kk
theorem aw_staticN (pc : Nat) {idx : Nat} (hd : decode Y.2.1 pc = .ok (.invokestatic idx, 3)) (ck : ckSN Y.1.cls idx Z as.length = true) (hcd : inTbl Z) (hM : AM Z rm as M Q') (hst : st0 = as.reverse ++ st) (hw : (st.map fun v => v.category).sum ≤ 8) (hR1 : rmOK R rm Z cs ss)
    (kk : ∀ r M', Q' r M' → AW Y R Q (pc + 3) ls (r.toList ++ st) M' (cs + rm.cells) (ss + rm.slots)) : AW Y R Q pc ls st0 M cs ss := by
  intro x p e s m args below meth c H locs la hC hR hL hq
  obtain ⟨hx, hb, hml, hr, hown, hts, hlocks, hnm, hK, hsz⟩ := id hC
  unfold ckSN at ck
  simp only [Bool.and_eq_true, decide_eq_true_eq] at ck
  obtain ⟨hini, hdd⟩ := ckC_ok ck.1.1
  refine aw_behind hC hL hq (va_runSN (n := as.length) ⟨hx, hb, hml, hown, hts⟩ (hM x) ⟨va_cnB as.length hts (wsY_good hcd) rfl rfl rfl (hK.2.2.1 _ ck.1.2) (hts _ hini) hdd hR1.1, hts _ (gtbl_of ck.2 rfl), trivial⟩ (pre_S hC hR) rfl (by simp) hL.2.1 (by subst hst; simp) (lv_room (by rw [cat_sum]; exact hw)) hd hR1.2) kk
theorem aw_virt (pc : Nat) {idx a ci N : Nat} {r : vw_C} (hd : decode Y.2.1 pc = .ok (.invokevirtual idx, 3)) (ck : ckV Y.1.cls idx Z as.length = true) (hcd : inTbl Z) (hk : M.2.1 a = (ci, N)) (hci : vwCl[ci]? = some r) (hcl : Z.1.cls = r.1) (hM : AM Z rm (.ref a :: as) M Q') (hst : st0 = as.reverse ++ .ref a :: st) (hw : (st.map fun v => v.category).sum ≤ 8) (hR1 : rmOK R rm Z cs ss)
    (kk : ∀ r M', Q' r M' → AW Y R Q (pc + 3) ls (r.toList ++ st) M' (cs + rm.cells) (ss + rm.slots)) : AW Y R Q pc ls st0 M cs ss := by
  intro x p e s m args below meth c H locs la hC hR hL hq
  obtain ⟨hx, hb, hml, hr, hown, hts, hlocks, hnm, hK, hsz⟩ := id hC
  unfold ckV at ck
  simp only [Bool.and_eq_true, decide_eq_true_eq] at ck
  obtain ⟨hini, hdd⟩ := ckC_ok ck.1.1.1
  obtain ⟨ha, hN, cell, q1, q2, q3, q4⟩ := hR.obj hk hci
  have hcB : ∃ cellB : Cell, H[ad x a]? = some cellB ∧ cellB.vm.isStatics = false ∧ s.vm.findClass Z.1.cls = some cellB.cls := ⟨cell, q1, by rw [q3]; rfl, by rw [q2, hcl]; exact (hK.1.1 ci r hci).2.1⟩
  have hp := pre_S (as := .ref a :: as) hC hR
  refine aw_behind hC hL hq (va_runV (n := as.length) (C := Z.1.cls) (As := as.map (cv x)) ⟨hx, hb, hml, hown, hts⟩ (hM x) ⟨callB_of as.length hts (wsY_good hcd) rfl rfl rfl (hts _ hini) (hts _ (gtbl_of ck.1.1.2 rfl)) hdd hR1.1, hts _ (gtbl_of ck.1.2 rfl), hts _ (gtbl_of ck.2 rfl)⟩ ⟨hp.1, hcB, hp.2⟩ rfl (by simp) hL.2.1 (by subst hst; simp [cv]) (lv_room (by rw [cat_sum]; exact hw)) hd hR1.2) kk
theorem aw_virtU (pc : Nat) {idx a ci N : Nat} {r : vw_C} {owner : String} {y : MethodName} {b0 : ByteArray} {m0 : Nat} {r0 : Option FieldType} (hd : decode Y.2.1 pc = .ok (.invokevirtual idx, 3)) (ck : ckU Y.1.cls idx r.1 owner y Z as.length = true) (hcd : inTbl Z) (hc0 : Cond.code ⟨owner, y.name, y.desc⟩ b0 m0 r0 ∈ lw_tbl) (hk : M.2.1 a = (ci, N)) (hci : vwCl[ci]? = some r) (hM : AM Z rm (.ref a :: as) M Q') (hst : st0 = as.reverse ++ .ref a :: st) (hw : (st.map fun v => v.category).sum ≤ 8) (hR1 : rmOK R rm Z cs ss)
    (kk : ∀ r M', Q' r M' → AW Y R Q (pc + 3) ls (r.toList ++ st) M' (cs + rm.cells) (ss + rm.slots)) : AW Y R Q pc ls st0 M cs ss := by
  intro x p e s m args below meth c H locs la hC hR hL hq
  obtain ⟨hx, hb, hml, hr, hown, hts, hlocks, hnm, hK, hsz⟩ := id hC
  unfold ckU at ck
  simp only [Bool.and_eq_true, decide_eq_true_eq] at ck
  obtain ⟨⟨⟨⟨⟨⟨⟨⟨c1, c2⟩, c3⟩, c4⟩, c5⟩, c6⟩, c7⟩, c8⟩, c9⟩ := ck
  obtain ⟨ha, hN, cell, q1, q2, q3, q4⟩ := hR.obj hk hci
  have hcB : ∃ cellB : Cell, H[ad x a]? = some cellB ∧ cellB.vm.isStatics = false ∧ s.vm.findClass r.1 = some cellB.cls := ⟨cell, q1, by rw [q3]; rfl, by rw [q2]; exact (hK.1.1 ci r hci).2.1⟩
  have hp := pre_S (as := .ref a :: as) hC hR
  have hG := wsY_good hcd
  have hcw : va_CU R s args Y.1.cls r.1 owner idx y Z.1 Z.2.1 Z.2.2.1 Z.2.2.2 (wsY Z) rm rm.cells rm.slots as.length := by
    refine ⟨⟨rfl, rfl, hR1.1.1, hR1.1.2, pay_in hts hG, List.mem_cons_self⟩, hts _ (gtbl_of hcd rfl), hts _ (gtbl_of c1 rfl), ⟨c2, c3⟩, fun sig h => ?_, hts _ (gtbl_of c5 rfl), hts _ (gtbl_of c6 rfl), va_Decl.of (hts _ (gtbl_of c9 rfl)) (hts _ (gtbl_of hc0 rfl)), hts _ (gtbl_of c7 rfl), hts _ (gtbl_of c8 rfl)⟩
    rw [h] at c4
    exact (Option.some.inj c4).symm
  refine aw_behind hC hL hq (va_runU (n := as.length) (As := as.map (cv x)) ⟨hx, hb, hml, hown, hts⟩ (hM x) hcw ⟨hp.1, hcB, hp.2⟩ rfl (by simp) hL.2.1 (by subst hst; simp [cv]) (lv_room (by rw [cat_sum]; exact hw)) hd hR1.2) kk
theorem aw_super (pc : Nat) {idx a ci N : Nat} {r : vw_C} (hd : decode Y.2.1 pc = .ok (.invokespecial idx, 3)) (ck : ckSU Y.1.cls idx Z as.length = true) (hcd : inTbl Z) (hk : M.2.1 a = (ci, N)) (hci : vwCl[ci]? = some r) (hM : AM Z rm (.ref a :: as) M Q') (hst : st0 = as.reverse ++ .ref a :: st) (hw : (st.map fun v => v.category).sum ≤ 8) (hR1 : rmOK R rm Z cs ss)
    (kk : ∀ r M', Q' r M' → AW Y R Q (pc + 3) ls (r.toList ++ st) M' (cs + rm.cells) (ss + rm.slots)) : AW Y R Q pc ls st0 M cs ss := by
  intro x p e s m args below meth c H locs la hC hR hL hq
  obtain ⟨hx, hb, hml, hr, hown, hts, hlocks, hnm, hK, hsz⟩ := id hC
  unfold ckSU at ck
  simp only [Bool.and_eq_true, decide_eq_true_eq] at ck
  obtain ⟨⟨⟨⟨⟨⟨c1, c2⟩, c3⟩, c4⟩, c5⟩, c6⟩, c7⟩ := ck
  obtain ⟨ha, hN, cell, q1, q2, q3, q4⟩ := hR.obj hk hci
  have hcB : ∃ cellB : Cell, H[ad x a]? = some cellB ∧ cellB.vm.isStatics = false ∧ s.vm.findClass r.1 = some cellB.cls := ⟨cell, q1, by rw [q3]; rfl, by rw [q2]; exact (hK.1.1 ci r hci).2.1⟩
  have hp := pre_S (as := .ref a :: as) hC hR
  have hG := wsY_good hcd
  have hcw : va_CS R s args Y.1.cls idx Z.1 Z.2.1 Z.2.2.1 Z.2.2.2 (wsY Z) rm rm.cells rm.slots as.length := by
    refine ⟨⟨rfl, rfl, hR1.1.1, hR1.1.2, pay_in hts hG, List.mem_cons_self⟩, hts _ (gtbl_of c4 rfl), hts _ (gtbl_of c5 rfl), hts _ (gtbl_of c6 rfl), hts _ (gtbl_of c7 rfl), hts _ (gtbl_of c1 rfl), hts _ (gtbl_of hcd rfl), c2, fun sig h => ?_⟩
    rw [h] at c3
    exact (Option.some.inj c3).symm
  refine aw_behind hC hL hq (va_runSU (n := as.length) (C := r.1) (As := as.map (cv x)) (hK.1.1 ci r hci).2 ⟨hx, hb, hml, hown, hts⟩ (hM x) hcw ⟨hp.1, hcB, hp.2⟩ rfl (by simp) hL.2.1 (by subst hst; simp [cv]) (lv_room (by rw [cat_sum]; exact hw)) hd hR1.2) kk
theorem aw_init (pc : Nat) {idx a : Nat} (hd : decode Y.2.1 pc = .ok (.invokespecial idx, 3)) (ck : ckI Y.1.cls idx Z as.length = true) (hcd : inTbl Z) (hz : Z.2.2.2 = none) (hM : AM Z rm (.ref a :: as) M Q') (hst : st0 = as.reverse ++ .ref a :: st) (hw : (st.map fun v => v.category).sum ≤ 8) (hR1 : rmOK R rm Z cs ss)
    (kk : ∀ r M', Q' r M' → AW Y R Q (pc + 3) ls (r.toList ++ st) M' (cs + rm.cells) (ss + rm.slots)) : AW Y R Q pc ls st0 M cs ss := by
  intro x p e s m args below meth c H locs la hC hR hL hq
  obtain ⟨hx, hb, hml, hr, hown, hts, hlocks, hnm, hK, hsz⟩ := id hC
  unfold ckI at ck
  simp only [Bool.and_eq_true, decide_eq_true_eq] at ck
  obtain ⟨hini, hdd⟩ := ckC_ok ck.1.1.1
  have hp := pre_S (as := .ref a :: as) hC hR
  refine aw_behind hC hL hq (va_runI (n := as.length) (As := as.map (cv x)) (b := ad x a) ⟨hx, hb, hml, hown, hts⟩ (hM x) ⟨callB_of as.length hts (wsY_good hcd) (by rw [← hz]; rfl) rfl rfl (hts _ hini) (hts _ (gtbl_of ck.1.1.2 rfl)) hdd hR1.1, ck.2, hts _ (gtbl_of ck.1.2 rfl)⟩ hp rfl (by simp) hL.2.1 (by subst hst; simp [cv]) (lv_room (by rw [cat_sum]; exact hw)) hd hR1.2) kk
theorem aw_initN (pc : Nat) {idx a : Nat} (hd : decode Y.2.1 pc = .ok (.invokespecial idx, 3)) (ck : ckIN Y.1.cls idx Z as.length = true) (hcd : inTbl Z) (hz : Z.2.2.2 = none) (hM : AM Z rm (.ref a :: as) M Q') (hst : st0 = as.reverse ++ .ref a :: st) (hw : (st.map fun v => v.category).sum ≤ 8) (hR1 : rmOK R rm Z cs ss)
    (kk : ∀ r M', Q' r M' → AW Y R Q (pc + 3) ls (r.toList ++ st) M' (cs + rm.cells) (ss + rm.slots)) : AW Y R Q pc ls st0 M cs ss := by
  intro x p e s m args below meth c H locs la hC hR hL hq
  obtain ⟨hx, hb, hml, hr, hown, hts, hlocks, hnm, hK, hsz⟩ := id hC
  unfold ckIN at ck
  simp only [Bool.and_eq_true, decide_eq_true_eq] at ck
  obtain ⟨hini, hdd⟩ := ckC_ok ck.1.1.1
  have hp := pre_S (as := .ref a :: as) hC hR
  refine aw_behind hC hL hq (va_runIN (n := as.length) (As := as.map (cv x)) (b := ad x a) ⟨hx, hb, hml, hown, hts⟩ (hM x) ⟨va_cnB as.length hts (wsY_good hcd) (by rw [← hz]; rfl) rfl rfl (hK.2.2.1 _ ck.1.1.2) (hts _ hini) hdd hR1.1, ck.2, hts _ (gtbl_of ck.1.2 rfl)⟩ hp rfl (by simp) hL.2.1 (by subst hst; simp [cv]) (lv_room (by rw [cat_sum]; exact hw)) hd hR1.2) kk
theorem aw_objInit (pc : Nat) {idx a : Nat} (hd : decode Y.2.1 pc = .ok (.invokespecial idx, 3)) (ck : Cond.methodLink Y.1.cls idx Lib.objectInit ∈ lw_tbl) (hw : (st.map fun v => v.category).sum ≤ 8) (hfr : 1 ≤ R.frames) (hlo : 20 ≤ R.locals) (kk : AW Y R Q (pc + 3) ls st M cs ss) : AW Y R Q pc ls (.ref a :: st) M cs ss := by
  intro x p e s m args below meth c H locs la hC hR hL hq
  obtain ⟨hx, hb, hml, hr, hown, hts, hlocks, hnm, hK, hsz⟩ := id hC
  refine W.objInit hx hb hown (hts _ (gtbl_of ck rfl)) (hts _ (gtbl_of (by decide +kernel) rfl)) (hts _ (gtbl_of (by decide +kernel) rfl)) rfl (hL.2.1.trans hml.symm) (rest := st.map (cv x)) rfl hd hfr ?_ (kk x p e s m args below meth c H locs la hC hR hL hq)
  rw [cat_sum]
  show 2 * 0 + _ + 12 ≤ _
  omega
theorem aw_max (pc : Nat) {idx : Nat} {x1 y1 : Int32} (hd : decode Y.2.1 pc = .ok (.invokestatic idx, 3)) (ck : Cond.methodLink Y.1.cls idx Lib.Math.max.name ∈ lw_tbl) (hw : (st.map fun v => v.category).sum ≤ 8) (hfr : 1 ≤ R.frames) (hlo : 21 ≤ R.locals) (hc : cs ≤ R.cells) (hs : ss ≤ R.slots) (kk : AW Y R Q (pc + 3) ls (.int (if x1 < y1 then y1 else x1) :: st) M cs ss) : AW Y R Q pc ls (.int y1 :: .int x1 :: st) M cs ss := by
  intro x p e s m args below meth c H locs la hC hR hL hq
  obtain ⟨hx, hb, hml, hr, hown, hts, hlocks, hnm, hK, hsz⟩ := id hC
  exact va_mmax hx hb (hml.trans hL.2.1.symm) hown (hts _ (gtbl_of ck rfl)) (hts _ (gtbl_of (by decide +kernel) rfl)) (hts _ (gtbl_of (by decide +kernel) rfl)) (hts _ (gtbl_of (by decide +kernel) rfl)) hfr (by rw [cat_sum]; omega) hc hs hd (kk x p e s m args below meth c H locs la hC hR hL hq)
theorem aw_min (pc : Nat) {idx : Nat} {x1 y1 : Int32} (hd : decode Y.2.1 pc = .ok (.invokestatic idx, 3)) (ck : Cond.methodLink Y.1.cls idx Lib.Math.min.name ∈ lw_tbl) (hw : (st.map fun v => v.category).sum ≤ 8) (hfr : 1 ≤ R.frames) (hlo : 21 ≤ R.locals) (hc : cs ≤ R.cells) (hs : ss ≤ R.slots) (kk : AW Y R Q (pc + 3) ls (.int (if y1 < x1 then y1 else x1) :: st) M cs ss) : AW Y R Q pc ls (.int y1 :: .int x1 :: st) M cs ss := by
  intro x p e s m args below meth c H locs la hC hR hL hq
  obtain ⟨hx, hb, hml, hr, hown, hts, hlocks, hnm, hK, hsz⟩ := id hC
  exact va_mmin hx hb (hml.trans hL.2.1.symm) hown (hts _ (gtbl_of ck rfl)) (hts _ (gtbl_of (by decide +kernel) rfl)) (hts _ (gtbl_of (by decide +kernel) rfl)) (hts _ (gtbl_of (by decide +kernel) rfl)) hfr (by rw [cat_sum]; omega) hc hs hd (kk x p e s m args below meth c H locs la hC hR hL hq)
theorem aw_abs (pc : Nat) {idx : Nat} {x1 : Int32} (hd : decode Y.2.1 pc = .ok (.invokestatic idx, 3)) (ck : Cond.methodLink Y.1.cls idx Lib.Math.abs.name ∈ lw_tbl) (hw : (st.map fun v => v.category).sum ≤ 8) (hfr : 1 ≤ R.frames) (hlo : 21 ≤ R.locals) (hc : cs ≤ R.cells) (hs : ss ≤ R.slots) (kk : AW Y R Q (pc + 3) ls (.int (if 0 ≤ x1 then x1 else 0 - x1) :: st) M cs ss) : AW Y R Q pc ls (.int x1 :: st) M cs ss := by
  intro x p e s m args below meth c H locs la hC hR hL hq
  obtain ⟨hx, hb, hml, hr, hown, hts, hlocks, hnm, hK, hsz⟩ := id hC
  exact va_mabs hx hb (hml.trans hL.2.1.symm) hown (hts _ (gtbl_of ck rfl)) (hts _ (gtbl_of (by decide +kernel) rfl)) (hts _ (gtbl_of (by decide +kernel) rfl)) (hts _ (gtbl_of (by decide +kernel) rfl)) hfr (by rw [cat_sum]; omega) hc hs hd (kk x p e s m args below meth c H locs la hC hR hL hq)
end
