/-! the class's side: what a write leaves as it was; arrays of numbers; calls (gen/cls0.py) -/
theorem wr_ne {M : Mem} {a k b : Nat} {v : Value} (h : b ≠ a) : (wr M a k v).2.2 b = M.2.2 b := if_neg h
theorem wr_eq {M : Mem} {a k : Nat} {v : Value} : (wr M a k v).2.2 a k = v := by
  show (if a = a then up (M.2.2 a) k v else M.2.2 a) k = v
  rw [if_pos rfl]
  exact if_pos rfl
theorem wr_nk {M : Mem} {a k j : Nat} {v : Value} (h : j ≠ k) : (wr M a k v).2.2 a j = M.2.2 a j := by
  show (if a = a then up (M.2.2 a) k v else M.2.2 a) j = _
  rw [if_pos rfl]
  exact if_neg h
theorem wr_get {M : Mem} {a k b j : Nat} {v : Value} (h : ¬ (b = a ∧ j = k)) : (wr M a k v).2.2 b j = M.2.2 b j := by
  by_cases hb : b = a
  · subst hb
    exact wr_nk (fun e => h ⟨rfl, e⟩)
  · rw [wr_ne hb]
/-- only what cell a holds has changed -/
def Wd (a : Nat) (M M' : Mem) : Prop := M'.1 = M.1 ∧ M'.2.1 = M.2.1 ∧ ∀ b, b ≠ a → M'.2.2 b = M.2.2 b
/-- only place k of cell a has changed: it is v -/
def Wf (a k : Nat) (v : Value) (M M' : Mem) : Prop := M'.1 = M.1 ∧ M'.2.1 = M.2.1 ∧ M'.2.2 a k = v ∧ ∀ b j, ¬ (b = a ∧ j = k) → M'.2.2 b j = M.2.2 b j
theorem Wf.toWd {a k : Nat} {v : Value} {M M' : Mem} (h : Wf a k v M M') : Wd a M M' := ⟨h.1, h.2.1, fun b hb => funext fun j => h.2.2.2 b j (fun q => hb q.1)⟩
theorem Wf.mk (M : Mem) (a k : Nat) (v : Value) : Wf a k v M (wr M a k v) := ⟨rfl, rfl, wr_eq, fun _ _ h => wr_get h⟩
/-- only cells of S have changed -/
def FrS (S : Nat → Prop) (M M' : Mem) : Prop := M'.1 = M.1 ∧ M'.2.1 = M.2.1 ∧ ∀ b, ¬ S b → M'.2.2 b = M.2.2 b
theorem FrS.rf (S : Nat → Prop) (M : Mem) : FrS S M M := ⟨rfl, rfl, fun _ _ => rfl⟩
theorem FrS.wd {S : Nat → Prop} {M0 M M' : Mem} {a : Nat} (h : FrS S M0 M) (g : Wd a M M') (ha : S a) : FrS S M0 M' := ⟨g.1.trans h.1, g.2.1.trans h.2.1, fun b hb => (g.2.2 b (fun e => hb (by rw [e]; exact ha))).trans (h.2.2 b hb)⟩
theorem FrS.trans {S : Nat → Prop} {M0 M M' : Mem} (h : FrS S M0 M) (g : FrS S M M') : FrS S M0 M' := ⟨g.1.trans h.1, g.2.1.trans h.2.1, fun b hb => (g.2.2 b hb).trans (h.2.2 b hb)⟩
theorem FrS.mono {S T : Nat → Prop} {M M' : Mem} (h : FrS S M M') (hs : ∀ a, S a → T a) : FrS T M M' := ⟨h.1, h.2.1, fun b hb => h.2.2 b (fun q => hb (hs b q))⟩
theorem Wd.toFrS {S : Nat → Prop} {M M' : Mem} {a : Nat} (g : Wd a M M') (ha : S a) : FrS S M M' := (FrS.rf S M).wd g ha
def upg (g : Nat → Int32) (j : Nat) (v : Int32) : Nat → Int32 := fun k => if k = j then v else g k
theorem upg_at {g : Nat → Int32} {j : Nat} {v : Int32} : upg g j v j = v := if_pos rfl
theorem upg_ne {g : Nat → Int32} {j k : Nat} {v : Int32} (h : k ≠ j) : upg g j v k = g k := if_neg h
/-- an array of numbers -/
def AR (M : Mem) (a n : Nat) (g : Nat → Int32) : Prop := M.2.1 a = (20, n) ∧ ∀ k, k < n → M.2.2 a k = .int (g k)
theorem AR.wd {M M' : Mem} {a b n : Nat} {g : Nat → Int32} (h : AR M b n g) (w : Wd a M M') (hb : b ≠ a) : AR M' b n g := ⟨by rw [w.2.1]; exact h.1, fun k hk => by rw [w.2.2 b hb]; exact h.2 k hk⟩
theorem AR.frs {S : Nat → Prop} {M M' : Mem} {b n : Nat} {g : Nat → Int32} (h : AR M b n g) (w : FrS S M M') (hb : ¬ S b) : AR M' b n g := ⟨by rw [w.2.1]; exact h.1, fun k hk => by rw [w.2.2 b hb]; exact h.2 k hk⟩
theorem AR.to {M : Mem} {a n : Nat} {f g : Nat → Int32} (h : AR M a n f) (he : ∀ k, k < n → f k = g k) : AR M a n g := ⟨h.1, fun k hk => by rw [h.2 k hk, he k hk]⟩
section
variable {Y : YY} {R : Room} {Q : Option Value → Mem → Prop} {ls : List (Option Value)} {st : List Value} {M : Mem} {cs ss : Nat}
theorem ar_ld (pc j : Nat) {a n : Nat} {g : Nat → Int32} {i : Int32} (hd : decode Y.2.1 pc = .ok (.iaload, 1)) (hA : AR M a n g) (hi : i = nI j) (hj : j < n) (hn : n < 2 ^ 31) (kk : AW Y R Q (pc + 1) ls (.int (g j) :: st) M cs ss) : AW Y R Q pc ls (.int i :: .ref a :: st) M cs ss :=
  aw_iald pc j hd hA.1 hi hj hn (hA.2 j hj) kk
theorem ar_st (pc j : Nat) {a n : Nat} {g : Nat → Int32} {i w : Int32} (hd : decode Y.2.1 pc = .ok (.iastore, 1)) (hA : AR M a n g) (ha : 2 ≤ a) (hi : i = nI j) (hj : j < n) (hn : n < 2 ^ 31) (kk : ∀ M', AR M' a n (upg g j w) → Wd a M M' → AW Y R Q (pc + 1) ls st M' cs ss) : AW Y R Q pc ls (.int w :: .int i :: .ref a :: st) M cs ss :=
  aw_iast pc j hd hA.1 ha hi hj hn (kk _ ⟨hA.1, fun k hk => by
    by_cases e : k = j
    · subst e; rw [wr_eq, upg_at]
    · rw [wr_nk e, upg_ne e]; exact hA.2 k hk⟩ (Wf.mk M a j _).toWd)
/-- an array of which no value is known -/
theorem ax_st (pc j : Nat) {a n : Nat} {i w : Int32} (hd : decode Y.2.1 pc = .ok (.iastore, 1)) (hA : M.2.1 a = (20, n)) (ha : 2 ≤ a) (hi : i = nI j) (hj : j < n) (hn : n < 2 ^ 31) (kk : ∀ M', Wf a j (.int w) M M' → AW Y R Q (pc + 1) ls st M' cs ss) : AW Y R Q pc ls (.int w :: .int i :: .ref a :: st) M cs ss :=
  aw_iast pc j hd hA ha hi hj hn (kk _ (Wf.mk M a j _))
theorem fp_put (pc : Nat) {a ci N k idx : Nat} {v : Value} (hd : decode Y.2.1 pc = .ok (.putfield idx, 3)) (ck : ckF Y.1.cls idx ci k = true) (cp : ckP ci k = true) (hk : M.2.1 a = (ci, N)) (hn : narrow (tyCl ci k) v = v) (hf : fits (tyCl ci k) v = true) (kk : ∀ M', Wf a k v M M' → AW Y R Q (pc + 3) ls st M' cs ss) : AW Y R Q pc ls (v :: .ref a :: st) M cs ss :=
  aw_put pc hd ck cp hk hn hf (kk _ (Wf.mk M a k v))
theorem fp_putF (pc : Nat) {a ci N k idx : Nat} {v : Value} (hd : decode Y.2.1 pc = .ok (.putfield idx, 3)) (ck : ckF Y.1.cls idx ci k = true) (cp : ckQ Y.1.cls ci k = true) (hin : Y.1.name = "<init>") (hk : M.2.1 a = (ci, N)) (hn : narrow (tyCl ci k) v = v) (hf : fits (tyCl ci k) v = true) (kk : ∀ M', Wf a k v M M' → AW Y R Q (pc + 3) ls st M' cs ss) : AW Y R Q pc ls (v :: .ref a :: st) M cs ss :=
  aw_putF pc hd ck cp hin hk hn hf (kk _ (Wf.mk M a k v))
/-- a contract: the answer, and what holds of the memory behind it -/
def AP (Z : YY) (rm : Room) (as : List Value) (M : Mem) (r : Option Value) (P : Mem → Prop) : Prop := AM Z rm as M (fun r' M' => r' = r ∧ P M')
theorem AP.mono {Z : YY} {rm : Room} {as : List Value} {r : Option Value} {P P' : Mem → Prop} (h : AP Z rm as M r P) (hp : ∀ M', P M' → P' M') : AP Z rm as M r P' := am_mono (fun _ _ q => ⟨q.1, hp _ q.2⟩) h
/-- a contract of a method that changes nothing -/
def CR (Z : YY) (rm : Room) (as : List Value) (M : Mem) (r : Option Value) : Prop := AP Z rm as M r (fun M' => M' = M)
theorem cr_sd {Z : YY} {rm : Room} {as : List Value} {r : Option Value} (h : SD Z rm as r) : CR Z rm as M r := h M
section
variable {Z : YY} {rm : Room} {as st0 : List Value} {r : Option Value} {P : Mem → Prop} {idx a ci N : Nat}
theorem ap_v (pc : Nat) {rr : vw_C} (hd : decode Y.2.1 pc = .ok (.invokevirtual idx, 3)) (hM : AP Z rm (.ref a :: as) M r P) (ck : ckV Y.1.cls idx Z as.length = true) (hcd : inTbl Z) (hk : M.2.1 a = (ci, N)) (hci : vwCl[ci]? = some rr) (hcl : Z.1.cls = rr.1) (hst : st0 = as.reverse ++ .ref a :: st) (hw : (st.map fun v => v.category).sum ≤ 8) (hR1 : rmOK R rm Z cs ss)
    (kk : ∀ M', P M' → AW Y R Q (pc + 3) ls (r.toList ++ st) M' (cs + rm.cells) (ss + rm.slots)) : AW Y R Q pc ls st0 M cs ss :=
  aw_virt pc hd ck hcd hk hci hcl hM hst hw hR1 (fun r' M' q => by obtain ⟨rfl, q2⟩ := q; exact kk M' q2)
theorem ap_u (pc : Nat) {rr : vw_C} {owner : String} {y : MethodName} {b0 : ByteArray} {m0 : Nat} {r0 : Option FieldType} (hd : decode Y.2.1 pc = .ok (.invokevirtual idx, 3)) (hM : AP Z rm (.ref a :: as) M r P) (ck : ckU Y.1.cls idx rr.1 owner y Z as.length = true) (hcd : inTbl Z) (hc0 : Cond.code ⟨owner, y.name, y.desc⟩ b0 m0 r0 ∈ lw_tbl) (hk : M.2.1 a = (ci, N)) (hci : vwCl[ci]? = some rr) (hst : st0 = as.reverse ++ .ref a :: st) (hw : (st.map fun v => v.category).sum ≤ 8) (hR1 : rmOK R rm Z cs ss)
    (kk : ∀ M', P M' → AW Y R Q (pc + 3) ls (r.toList ++ st) M' (cs + rm.cells) (ss + rm.slots)) : AW Y R Q pc ls st0 M cs ss :=
  aw_virtU pc hd ck hcd hc0 hk hci hM hst hw hR1 (fun r' M' q => by obtain ⟨rfl, q2⟩ := q; exact kk M' q2)
theorem ap_super (pc : Nat) {rr : vw_C} (hd : decode Y.2.1 pc = .ok (.invokespecial idx, 3)) (hM : AP Z rm (.ref a :: as) M r P) (ck : ckSU Y.1.cls idx Z as.length = true) (hcd : inTbl Z) (hk : M.2.1 a = (ci, N)) (hci : vwCl[ci]? = some rr) (hst : st0 = as.reverse ++ .ref a :: st) (hw : (st.map fun v => v.category).sum ≤ 8) (hR1 : rmOK R rm Z cs ss)
    (kk : ∀ M', P M' → AW Y R Q (pc + 3) ls (r.toList ++ st) M' (cs + rm.cells) (ss + rm.slots)) : AW Y R Q pc ls st0 M cs ss :=
  aw_super pc hd ck hcd hk hci hM hst hw hR1 (fun r' M' q => by obtain ⟨rfl, q2⟩ := q; exact kk M' q2)
theorem ap_i (pc : Nat) (hd : decode Y.2.1 pc = .ok (.invokespecial idx, 3)) (hM : AP Z rm (.ref a :: as) M r P) (ck : ckI Y.1.cls idx Z as.length = true) (hcd : inTbl Z) (hz : Z.2.2.2 = none) (hst : st0 = as.reverse ++ .ref a :: st) (hw : (st.map fun v => v.category).sum ≤ 8) (hR1 : rmOK R rm Z cs ss)
    (kk : ∀ M', P M' → AW Y R Q (pc + 3) ls (r.toList ++ st) M' (cs + rm.cells) (ss + rm.slots)) : AW Y R Q pc ls st0 M cs ss :=
  aw_init pc hd ck hcd hz hM hst hw hR1 (fun r' M' q => by obtain ⟨rfl, q2⟩ := q; exact kk M' q2)
theorem ap_in (pc : Nat) (hd : decode Y.2.1 pc = .ok (.invokespecial idx, 3)) (hM : AP Z rm (.ref a :: as) M r P) (ck : ckIN Y.1.cls idx Z as.length = true) (hcd : inTbl Z) (hz : Z.2.2.2 = none) (hst : st0 = as.reverse ++ .ref a :: st) (hw : (st.map fun v => v.category).sum ≤ 8) (hR1 : rmOK R rm Z cs ss)
    (kk : ∀ M', P M' → AW Y R Q (pc + 3) ls (r.toList ++ st) M' (cs + rm.cells) (ss + rm.slots)) : AW Y R Q pc ls st0 M cs ss :=
  aw_initN pc hd ck hcd hz hM hst hw hR1 (fun r' M' q => by obtain ⟨rfl, q2⟩ := q; exact kk M' q2)
theorem ap_s (pc : Nat) (hd : decode Y.2.1 pc = .ok (.invokestatic idx, 3)) (hM : AP Z rm as M r P) (ck : ckS Y.1.cls idx Z as.length = true) (hcd : inTbl Z) (hst : st0 = as.reverse ++ st) (hw : (st.map fun v => v.category).sum ≤ 8) (hR1 : rmOK R rm Z cs ss)
    (kk : ∀ M', P M' → AW Y R Q (pc + 3) ls (r.toList ++ st) M' (cs + rm.cells) (ss + rm.slots)) : AW Y R Q pc ls st0 M cs ss :=
  aw_static pc hd ck hcd hM hst hw hR1 (fun r' M' q => by obtain ⟨rfl, q2⟩ := q; exact kk M' q2)
theorem ap_sn (pc : Nat) (hd : decode Y.2.1 pc = .ok (.invokestatic idx, 3)) (hM : AP Z rm as M r P) (ck : ckSN Y.1.cls idx Z as.length = true) (hcd : inTbl Z) (hst : st0 = as.reverse ++ st) (hw : (st.map fun v => v.category).sum ≤ 8) (hR1 : rmOK R rm Z cs ss)
    (kk : ∀ M', P M' → AW Y R Q (pc + 3) ls (r.toList ++ st) M' (cs + rm.cells) (ss + rm.slots)) : AW Y R Q pc ls st0 M cs ss :=
  aw_staticN pc hd ck hcd hM hst hw hR1 (fun r' M' q => by obtain ⟨rfl, q2⟩ := q; exact kk M' q2)
/-- behind a method that makes nothing -/
theorem kz {L : List Value} {pc : Nat} (hz : (rm.cells, rm.slots) = (0, 0)) (k : AW Y R Q pc ls L M cs ss) : AW Y R Q pc ls L M (cs + rm.cells) (ss + rm.slots) := by
  rw [(Prod.mk.inj hz).1, (Prod.mk.inj hz).2]
  exact k
theorem cr_v1 (pc : Nat) {v : Value} {rr : vw_C} (hd : decode Y.2.1 pc = .ok (.invokevirtual idx, 3)) (hM : CR Z rm (.ref a :: as) M (some v)) (ck : ckV Y.1.cls idx Z as.length = true) (hcd : inTbl Z) (hk : M.2.1 a = (ci, N)) (hci : vwCl[ci]? = some rr) (hcl : Z.1.cls = rr.1) (hst : st0 = as.reverse ++ .ref a :: st) (hw : (st.map fun v => v.category).sum ≤ 8) (hR1 : rmOK R rm Z cs ss) (hz : (rm.cells, rm.slots) = (0, 0))
    (kk : AW Y R Q (pc + 3) ls (v :: st) M cs ss) : AW Y R Q pc ls st0 M cs ss :=
  ap_v pc hd hM ck hcd hk hci hcl hst hw hR1 (fun M' q => by subst q; exact kz hz kk)
theorem ap_v1 (pc : Nat) {v : Value} {rr : vw_C} (hd : decode Y.2.1 pc = .ok (.invokevirtual idx, 3)) (hM : AP Z rm (.ref a :: as) M (some v) P) (ck : ckV Y.1.cls idx Z as.length = true) (hcd : inTbl Z) (hk : M.2.1 a = (ci, N)) (hci : vwCl[ci]? = some rr) (hcl : Z.1.cls = rr.1) (hst : st0 = as.reverse ++ .ref a :: st) (hw : (st.map fun v => v.category).sum ≤ 8) (hR1 : rmOK R rm Z cs ss) (hz : (rm.cells, rm.slots) = (0, 0))
    (kk : ∀ M', P M' → AW Y R Q (pc + 3) ls (v :: st) M' cs ss) : AW Y R Q pc ls st0 M cs ss :=
  ap_v pc hd hM ck hcd hk hci hcl hst hw hR1 (fun M' q => kz hz (kk M' q))
theorem ap_v0 (pc : Nat) {rr : vw_C} (hd : decode Y.2.1 pc = .ok (.invokevirtual idx, 3)) (hM : AP Z rm (.ref a :: as) M none P) (ck : ckV Y.1.cls idx Z as.length = true) (hcd : inTbl Z) (hk : M.2.1 a = (ci, N)) (hci : vwCl[ci]? = some rr) (hcl : Z.1.cls = rr.1) (hst : st0 = as.reverse ++ .ref a :: st) (hw : (st.map fun v => v.category).sum ≤ 8) (hR1 : rmOK R rm Z cs ss) (hz : (rm.cells, rm.slots) = (0, 0))
    (kk : ∀ M', P M' → AW Y R Q (pc + 3) ls st M' cs ss) : AW Y R Q pc ls st0 M cs ss :=
  ap_v pc hd hM ck hcd hk hci hcl hst hw hR1 (fun M' q => kz hz (kk M' q))
theorem cr_u1 (pc : Nat) {v : Value} {rr : vw_C} {owner : String} {y : MethodName} {b0 : ByteArray} {m0 : Nat} {r0 : Option FieldType} (hd : decode Y.2.1 pc = .ok (.invokevirtual idx, 3)) (hM : CR Z rm (.ref a :: as) M (some v)) (ck : ckU Y.1.cls idx rr.1 owner y Z as.length = true) (hcd : inTbl Z) (hc0 : Cond.code ⟨owner, y.name, y.desc⟩ b0 m0 r0 ∈ lw_tbl) (hk : M.2.1 a = (ci, N)) (hci : vwCl[ci]? = some rr) (hst : st0 = as.reverse ++ .ref a :: st) (hw : (st.map fun v => v.category).sum ≤ 8) (hR1 : rmOK R rm Z cs ss) (hz : (rm.cells, rm.slots) = (0, 0))
    (kk : AW Y R Q (pc + 3) ls (v :: st) M cs ss) : AW Y R Q pc ls st0 M cs ss :=
  ap_u pc hd hM ck hcd hc0 hk hci hst hw hR1 (fun M' q => by subst q; exact kz hz kk)
theorem ap_u1 (pc : Nat) {v : Value} {rr : vw_C} {owner : String} {y : MethodName} {b0 : ByteArray} {m0 : Nat} {r0 : Option FieldType} (hd : decode Y.2.1 pc = .ok (.invokevirtual idx, 3)) (hM : AP Z rm (.ref a :: as) M (some v) P) (ck : ckU Y.1.cls idx rr.1 owner y Z as.length = true) (hcd : inTbl Z) (hc0 : Cond.code ⟨owner, y.name, y.desc⟩ b0 m0 r0 ∈ lw_tbl) (hk : M.2.1 a = (ci, N)) (hci : vwCl[ci]? = some rr) (hst : st0 = as.reverse ++ .ref a :: st) (hw : (st.map fun v => v.category).sum ≤ 8) (hR1 : rmOK R rm Z cs ss) (hz : (rm.cells, rm.slots) = (0, 0))
    (kk : ∀ M', P M' → AW Y R Q (pc + 3) ls (v :: st) M' cs ss) : AW Y R Q pc ls st0 M cs ss :=
  ap_u pc hd hM ck hcd hc0 hk hci hst hw hR1 (fun M' q => kz hz (kk M' q))
theorem ap_u0 (pc : Nat) {rr : vw_C} {owner : String} {y : MethodName} {b0 : ByteArray} {m0 : Nat} {r0 : Option FieldType} (hd : decode Y.2.1 pc = .ok (.invokevirtual idx, 3)) (hM : AP Z rm (.ref a :: as) M none P) (ck : ckU Y.1.cls idx rr.1 owner y Z as.length = true) (hcd : inTbl Z) (hc0 : Cond.code ⟨owner, y.name, y.desc⟩ b0 m0 r0 ∈ lw_tbl) (hk : M.2.1 a = (ci, N)) (hci : vwCl[ci]? = some rr) (hst : st0 = as.reverse ++ .ref a :: st) (hw : (st.map fun v => v.category).sum ≤ 8) (hR1 : rmOK R rm Z cs ss) (hz : (rm.cells, rm.slots) = (0, 0))
    (kk : ∀ M', P M' → AW Y R Q (pc + 3) ls st M' cs ss) : AW Y R Q pc ls st0 M cs ss :=
  ap_u pc hd hM ck hcd hc0 hk hci hst hw hR1 (fun M' q => kz hz (kk M' q))
theorem cr_s1 (pc : Nat) {v : Value} (hd : decode Y.2.1 pc = .ok (.invokestatic idx, 3)) (hM : CR Z rm (as) M (some v)) (ck : ckS Y.1.cls idx Z as.length = true) (hcd : inTbl Z) (hst : st0 = as.reverse ++ st) (hw : (st.map fun v => v.category).sum ≤ 8) (hR1 : rmOK R rm Z cs ss) (hz : (rm.cells, rm.slots) = (0, 0))
    (kk : AW Y R Q (pc + 3) ls (v :: st) M cs ss) : AW Y R Q pc ls st0 M cs ss :=
  ap_s pc hd hM ck hcd hst hw hR1 (fun M' q => by subst q; exact kz hz kk)
theorem ap_s1 (pc : Nat) {v : Value} (hd : decode Y.2.1 pc = .ok (.invokestatic idx, 3)) (hM : AP Z rm (as) M (some v) P) (ck : ckS Y.1.cls idx Z as.length = true) (hcd : inTbl Z) (hst : st0 = as.reverse ++ st) (hw : (st.map fun v => v.category).sum ≤ 8) (hR1 : rmOK R rm Z cs ss) (hz : (rm.cells, rm.slots) = (0, 0))
    (kk : ∀ M', P M' → AW Y R Q (pc + 3) ls (v :: st) M' cs ss) : AW Y R Q pc ls st0 M cs ss :=
  ap_s pc hd hM ck hcd hst hw hR1 (fun M' q => kz hz (kk M' q))
theorem ap_s0 (pc : Nat) (hd : decode Y.2.1 pc = .ok (.invokestatic idx, 3)) (hM : AP Z rm (as) M none P) (ck : ckS Y.1.cls idx Z as.length = true) (hcd : inTbl Z) (hst : st0 = as.reverse ++ st) (hw : (st.map fun v => v.category).sum ≤ 8) (hR1 : rmOK R rm Z cs ss) (hz : (rm.cells, rm.slots) = (0, 0))
    (kk : ∀ M', P M' → AW Y R Q (pc + 3) ls st M' cs ss) : AW Y R Q pc ls st0 M cs ss :=
  ap_s pc hd hM ck hcd hst hw hR1 (fun M' q => kz hz (kk M' q))
theorem cr_sn1 (pc : Nat) {v : Value} (hd : decode Y.2.1 pc = .ok (.invokestatic idx, 3)) (hM : CR Z rm (as) M (some v)) (ck : ckSN Y.1.cls idx Z as.length = true) (hcd : inTbl Z) (hst : st0 = as.reverse ++ st) (hw : (st.map fun v => v.category).sum ≤ 8) (hR1 : rmOK R rm Z cs ss) (hz : (rm.cells, rm.slots) = (0, 0))
    (kk : AW Y R Q (pc + 3) ls (v :: st) M cs ss) : AW Y R Q pc ls st0 M cs ss :=
  ap_sn pc hd hM ck hcd hst hw hR1 (fun M' q => by subst q; exact kz hz kk)
theorem ap_sn1 (pc : Nat) {v : Value} (hd : decode Y.2.1 pc = .ok (.invokestatic idx, 3)) (hM : AP Z rm (as) M (some v) P) (ck : ckSN Y.1.cls idx Z as.length = true) (hcd : inTbl Z) (hst : st0 = as.reverse ++ st) (hw : (st.map fun v => v.category).sum ≤ 8) (hR1 : rmOK R rm Z cs ss) (hz : (rm.cells, rm.slots) = (0, 0))
    (kk : ∀ M', P M' → AW Y R Q (pc + 3) ls (v :: st) M' cs ss) : AW Y R Q pc ls st0 M cs ss :=
  ap_sn pc hd hM ck hcd hst hw hR1 (fun M' q => kz hz (kk M' q))
theorem ap_sn0 (pc : Nat) (hd : decode Y.2.1 pc = .ok (.invokestatic idx, 3)) (hM : AP Z rm (as) M none P) (ck : ckSN Y.1.cls idx Z as.length = true) (hcd : inTbl Z) (hst : st0 = as.reverse ++ st) (hw : (st.map fun v => v.category).sum ≤ 8) (hR1 : rmOK R rm Z cs ss) (hz : (rm.cells, rm.slots) = (0, 0))
    (kk : ∀ M', P M' → AW Y R Q (pc + 3) ls st M' cs ss) : AW Y R Q pc ls st0 M cs ss :=
  ap_sn pc hd hM ck hcd hst hw hR1 (fun M' q => kz hz (kk M' q))
theorem cr_super1 (pc : Nat) {v : Value} {rr : vw_C} (hd : decode Y.2.1 pc = .ok (.invokespecial idx, 3)) (hM : CR Z rm (.ref a :: as) M (some v)) (ck : ckSU Y.1.cls idx Z as.length = true) (hcd : inTbl Z) (hk : M.2.1 a = (ci, N)) (hci : vwCl[ci]? = some rr) (hst : st0 = as.reverse ++ .ref a :: st) (hw : (st.map fun v => v.category).sum ≤ 8) (hR1 : rmOK R rm Z cs ss) (hz : (rm.cells, rm.slots) = (0, 0))
    (kk : AW Y R Q (pc + 3) ls (v :: st) M cs ss) : AW Y R Q pc ls st0 M cs ss :=
  ap_super pc hd hM ck hcd hk hci hst hw hR1 (fun M' q => by subst q; exact kz hz kk)
theorem ap_super1 (pc : Nat) {v : Value} {rr : vw_C} (hd : decode Y.2.1 pc = .ok (.invokespecial idx, 3)) (hM : AP Z rm (.ref a :: as) M (some v) P) (ck : ckSU Y.1.cls idx Z as.length = true) (hcd : inTbl Z) (hk : M.2.1 a = (ci, N)) (hci : vwCl[ci]? = some rr) (hst : st0 = as.reverse ++ .ref a :: st) (hw : (st.map fun v => v.category).sum ≤ 8) (hR1 : rmOK R rm Z cs ss) (hz : (rm.cells, rm.slots) = (0, 0))
    (kk : ∀ M', P M' → AW Y R Q (pc + 3) ls (v :: st) M' cs ss) : AW Y R Q pc ls st0 M cs ss :=
  ap_super pc hd hM ck hcd hk hci hst hw hR1 (fun M' q => kz hz (kk M' q))
theorem ap_super0 (pc : Nat) {rr : vw_C} (hd : decode Y.2.1 pc = .ok (.invokespecial idx, 3)) (hM : AP Z rm (.ref a :: as) M none P) (ck : ckSU Y.1.cls idx Z as.length = true) (hcd : inTbl Z) (hk : M.2.1 a = (ci, N)) (hci : vwCl[ci]? = some rr) (hst : st0 = as.reverse ++ .ref a :: st) (hw : (st.map fun v => v.category).sum ≤ 8) (hR1 : rmOK R rm Z cs ss) (hz : (rm.cells, rm.slots) = (0, 0))
    (kk : ∀ M', P M' → AW Y R Q (pc + 3) ls st M' cs ss) : AW Y R Q pc ls st0 M cs ss :=
  ap_super pc hd hM ck hcd hk hci hst hw hR1 (fun M' q => kz hz (kk M' q))
end
end

theorem ckQ_RX0_0_3 : ckQ RX0 0 3 = true := by decide +kernel
theorem ckQ_RX0_6_0 : ckQ RX0 6 0 = true := by decide +kernel
theorem ckQ_RX0_0_4 : ckQ RX0 0 4 = true := by decide +kernel
theorem ckQ_RX0_6_1 : ckQ RX0 6 1 = true := by decide +kernel
theorem ckP1_2 : ckP 1 2 = true := by decide +kernel
theorem ckQ_RX1_1_0 : ckQ RX1 1 0 = true := by decide +kernel
theorem ckQ_RX1_1_1 : ckQ RX1 1 1 = true := by decide +kernel
theorem ckQ_RX2_2_0 : ckQ RX2 2 0 = true := by decide +kernel
theorem ckQ_RX2_2_1 : ckQ RX2 2 1 = true := by decide +kernel
theorem ckQ_RX2_2_2 : ckQ RX2 2 2 = true := by decide +kernel
theorem ckQ_RX3_3_1 : ckQ RX3 3 1 = true := by decide +kernel
theorem ckQ_RX3_3_0 : ckQ RX3 3 0 = true := by decide +kernel
theorem ckP3_2 : ckP 3 2 = true := by decide +kernel
theorem ckP3_3 : ckP 3 3 = true := by decide +kernel
theorem ckQ_RX4_4_0 : ckQ RX4 4 0 = true := by decide +kernel
theorem ckQ_RX4_4_2 : ckQ RX4 4 2 = true := by decide +kernel
theorem ckP4_3 : ckP 4 3 = true := by decide +kernel
theorem ckP4_4 : ckP 4 4 = true := by decide +kernel
theorem ckP4_1 : ckP 4 1 = true := by decide +kernel
theorem ckP4_5 : ckP 4 5 = true := by decide +kernel
theorem ckQ_RX5_5_0 : ckQ RX5 5 0 = true := by decide +kernel
theorem ckP5_1 : ckP 5 1 = true := by decide +kernel
theorem ckP5_2 : ckP 5 2 = true := by decide +kernel
theorem ckP5_3 : ckP 5 3 = true := by decide +kernel
theorem ckQ_RX7_7_0 : ckQ RX7 7 0 = true := by decide +kernel
theorem ckQ_RX7_0_0 : ckQ RX7 0 0 = true := by decide +kernel
theorem ckQ_RX7_6_2 : ckQ RX7 6 2 = true := by decide +kernel
theorem ckQ_RX7_7_1 : ckQ RX7 7 1 = true := by decide +kernel
theorem ckQ_RX7_0_1 : ckQ RX7 0 1 = true := by decide +kernel
theorem ckQ_RX7_6_3 : ckQ RX7 6 3 = true := by decide +kernel
theorem ckQ_RX7_7_2 : ckQ RX7 7 2 = true := by decide +kernel
theorem ckQ_RX7_0_2 : ckQ RX7 0 2 = true := by decide +kernel
theorem ckQ_RX7_6_4 : ckQ RX7 6 4 = true := by decide +kernel
theorem ckP8_0 : ckP 8 0 = true := by decide +kernel
theorem ckQ_RX9_9_0 : ckQ RX9 9 0 = true := by decide +kernel
theorem ckQ_RX10_10_0 : ckQ RX10 10 0 = true := by decide +kernel
theorem ckQ_RX10_10_1 : ckQ RX10 10 1 = true := by decide +kernel
theorem ckQ_RX11_11_0 : ckQ RX11 11 0 = true := by decide +kernel
theorem ckQ_RX11_11_1 : ckQ RX11 11 1 = true := by decide +kernel
theorem ckQ_RX11_11_2 : ckQ RX11 11 2 = true := by decide +kernel
theorem ckQ_RX11_11_3 : ckQ RX11 11 3 = true := by decide +kernel
theorem ckQ_RX11_11_4 : ckQ RX11 11 4 = true := by decide +kernel
theorem ckQ_RX11_11_5 : ckQ RX11 11 5 = true := by decide +kernel
theorem ckQ_RX11_11_6 : ckQ RX11 11 6 = true := by decide +kernel
theorem ckQ_RX11_11_7 : ckQ RX11 11 7 = true := by decide +kernel
theorem ckP11_12 : ckP 11 12 = true := by decide +kernel
theorem ckP11_9 : ckP 11 9 = true := by decide +kernel
theorem ckP3_4 : ckP 3 4 = true := by decide +kernel
theorem ckP11_11 : ckP 11 11 = true := by decide +kernel
theorem ckP11_10 : ckP 11 10 = true := by decide +kernel
theorem ckP11_8 : ckP 11 8 = true := by decide +kernel
theorem vc0 : vwCl[0]? = some (RX0, TX0, 5) := rfl
theorem vc1 : vwCl[1]? = some (RX1, TX1, 3) := rfl
theorem vc2 : vwCl[2]? = some (RX2, TX2, 3) := rfl
theorem vc3 : vwCl[3]? = some (RX3, TX3, 5) := rfl
theorem vc4 : vwCl[4]? = some (RX4, TX4, 6) := rfl
theorem vc5 : vwCl[5]? = some (RX5, TX5, 4) := rfl
theorem vc6 : vwCl[6]? = some (RX6, TX6, 5) := rfl
theorem vc7 : vwCl[7]? = some (RX7, TX7, 3) := rfl
theorem vc8 : vwCl[8]? = some (RX8, TX8, 1) := rfl
theorem vc9 : vwCl[9]? = some (RX9, TX9, 1) := rfl
theorem vc10 : vwCl[10]? = some (RX10, TX10, 2) := rfl
theorem vc11 : vwCl[11]? = some (RX11, TX11, 13) := rfl
