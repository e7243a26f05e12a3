/-! ===== the abstract machine: a memory of numbered cells, a judgement of a method's body that hides the machine, a contract of a method that hides it too ===== -/
/-- next free cell; a cell's kind and length; what a cell holds at a place -/
abbrev Mem : Type := Nat × (Nat → Nat × Nat) × (Nat → Nat → Value)
/-- launch; class numbers and slots; the first new cell; the heap at the law's start; the script's cell; NO_ACTS' cell; the array classes -/
abbrev CX : Type := Launch × va_G × Nat × Heap × Nat × Nat × (Nat → ClassId)
abbrev xl (x : CX) : Launch := x.1
abbrev xD (x : CX) : va_G := x.2.1
abbrev xz (x : CX) : Nat := x.2.2.1
abbrev xH (x : CX) : Heap := x.2.2.2.1
abbrev xb (x : CX) : Nat := x.2.2.2.2.1
abbrev xn (x : CX) : Nat := x.2.2.2.2.2.1
abbrev xA (x : CX) : Nat → ClassId := x.2.2.2.2.2.2
def ad (x : CX) (a : Nat) : Nat := if a = 0 then xb x else if a = 1 then xn x else xz x + (a - 2)
def cv (x : CX) (v : Value) : Value := match v with
  | .ref a => .ref (ad x a)
  | .int i => .int i
  | .long i => .long i
  | .null => .null
  | w => w
theorem ad_hi (x : CX) {a : Nat} (h : 2 ≤ a) : ad x a = xz x + (a - 2) := by
  unfold ad
  rw [if_neg (by omega), if_neg (by omega)]
theorem ad_inj (x : CX) {a b : Nat} (ha : 2 ≤ a) (hb : 2 ≤ b) (h : ad x a = ad x b) : a = b := by
  rw [ad_hi x ha, ad_hi x hb] at h
  omega
theorem cv_cat (x : CX) (v : Value) : (cv x v).category = v.category := by cases v <;> rfl
/-- the kinds of arrays: 20 int, 21 pictures, 22 lenses, 23 looks, 24 sheets; under 20: objects, by the place of the class in vwCl -/
def akT (k : Nat) : FieldType := match k with
  | 20 => .int
  | 21 => .object "PicturePapers$Picture"
  | 22 => .object "PicturePapers$Lens"
  | 23 => .object "PicturePapers$Look"
  | _ => .object "PicturePapers$Sheet"
def xT (x : CX) : List (ClassId × FieldType) := [(xA x 20, akT 20), (xA x 21, akT 21), (xA x 22, akT 22), (xA x 23, akT 23), (xA x 24, akT 24)]
def rcell (x : CX) (a : Nat) (kn : Nat × Nat) (f : Nat → Value) (H : Heap) : Prop :=
  (kn.1 < 20 → ∃ r : vw_C, vwCl[kn.1]? = some r ∧ r.2.2 = kn.2 ∧ t_OB (ad x a) ((xD x).1 kn.1) kn.2 ((xD x).2 kn.1) H (fun k => cv x (f k))) ∧
  (20 ≤ kn.1 → kn.1 < 25 ∧ H[ad x a]? = some (arrV (xA x kn.1) kn.2 (fun k => cv x (f k))))
def Rep (x : CX) (M : Mem) (H : Heap) : Prop :=
  2 ≤ M.1 ∧ H.size = xz x + (M.1 - 2) ∧ (∀ q : Nat, q < xz x → H[q]? = (xH x)[q]?) ∧ (xb x < xz x ∧ xn x < xz x) ∧
  (∀ a, a < 2 → (M.2.1 a).1 = 20 ∧ ∃ cell : Cell, (xH x)[ad x a]? = some cell ∧ cell.vm ≠ .unknown ∧ cell.slots.size = (M.2.1 a).2 ∧ ∀ j : Nat, j < (M.2.1 a).2 → cell.slots[j]? = some (cv x (M.2.2 a j))) ∧
  ∀ a, 2 ≤ a → (M.2.1 a).1 ≠ 99 → rcell x a (M.2.1 a) (M.2.2 a) H
def gtbl : List Cond := lw_tbl.filter goodWord
theorem gtbl_of {w : Cond} (h : w ∈ lw_tbl) (hg : goodWord w = true) : w ∈ gtbl := List.mem_filter.mpr ⟨h, hg⟩
theorem gtbl_in {w : Cond} (h : w ∈ gtbl) : w ∈ lw_tbl := (List.mem_filter.mp h).1
theorem gtbl_good : GoodIn gtbl gtbl := fun w h => ⟨h, good_of_word (List.mem_filter.mp h).2⟩
def wsY (Y : YY) : List Cond := Cond.code Y.1 Y.2.1 Y.2.2.1 Y.2.2.2 :: gtbl
def nestM : List (String × Nat × MethodName) := [("PicturePapers", 37, yX9_init), ("PicturePapers", 44, yX4_init), ("PicturePapers", 51, yX10_init), ("PicturePapers", 58, yX8_init), ("PicturePapers", 63, yX5_init), ("PicturePapers$Sheet", 40, yX11_isIn), ("PicturePapers$Picture", 47, yX11_isPlace)]
def nestF : List (String × Nat) := [("PicturePapers$Silent", 3), ("PicturePapers$Taken", 22)]
def overs : List String := ["PicturePapers$Picture", "PicturePapers$Lens", "PicturePapers$Look", "PicturePapers$Sheet"]
/-- what is known of the tables at a state -/
def KN (x : CX) (U : State) : Prop :=
  va_K (xD x) vwCl (xT x) U ∧ (∀ a, a < 2 → ∀ cell : Cell, (xH x)[ad x a]? = some cell → U.isArrayOf cell .int) ∧
  (∀ q ∈ nestM, va_Nw (.methodLinkNest q.1 q.2.1 q.2.2 "PicturePapers") U) ∧ (∀ q ∈ nestF, va_Nw (.fieldLinkNest q.1 q.2 "PicturePapers" "NO_ACTS" "[I" "PicturePapers") U) ∧
  (∀ C ∈ overs, va_AO C U) ∧ va_Nw (.declares ⟨"PicturePapers$Taken", "takenTelling", "(LPicturePapers$Trace;)I"⟩) U ∧ va_Nw (.castable "[I" "java/lang/Cloneable") U ∧
  va_Z "PicturePapers" "NO_ACTS" "[I" (.ref (xn x)) (fun q => xz x ≤ q) U (xH x)
/-- what holds of a method's body wherever it is -/
def CT (x : CX) (Y : YY) (p : Program) (s : State) (m : MethodId) (args : Array Value) (meth : Method) (c : Code) : Prop :=
  p.tables.exec = Jvm.exec ∧ c.code = Y.2.1 ∧ c.maxLocals = Y.2.2.1 ∧ meth.sig.returnType = Y.2.2.2 ∧ s.vm.findClass Y.1.cls = some m.cls ∧ (∀ w ∈ gtbl, w.before args s = true) ∧ meth.locks = false ∧ meth.name = Y.1.name ∧ KN x s ∧ xz x ≤ s.heap.size
def LV0 (x : CX) (la : Array Slot) (ls : List (Option Value)) (n : Nat) : Prop := ls.length = n ∧ la.size = n ∧ lv_wf la ∧ ∀ (i : Nat) (v : Value), ls[i]? = some (some v) → la[i]? = some (.val (cv x v))
def QC (x : CX) (Q : Option Value → Mem → Prop) : Array Value → State → Outcome → State → Prop := fun _ _ o t => ∃ (r : Option Value) (M : Mem), o = .returned (r.map (cv x)) ∧ Q r M ∧ Rep x M t.heap
/-- the judgement: from here, with these locals and this stack, over this memory, the method ends with Q -/
def AW (Y : YY) (R : Room) (Q : Option Value → Mem → Prop) (pc : Nat) (ls : List (Option Value)) (st : List Value) (M : Mem) (cs ss : Nat) : Prop :=
  ∀ (x : CX) (p : Program) (e : Env) (s : State) (m : MethodId) (args : Array Value) (below : List Frame) (meth : Method) (c : Code) (H : Heap) (locs : List Loc) (la : Array Slot),
    CT x Y p s m args meth c → Rep x M H → LV0 x la ls Y.2.2.1 → (∀ q ∈ locs, xz x ≤ q.base) →
    W p (xl x) e R s m args below meth c H locs cs ss (MQ below (QC x Q) args s R.cells R.slots (fun q => xz x ≤ q)) (F0 m pc la (st.map (cv x)))
/-- the contract -/
def AM (Y : YY) (rm : Room) (as : List Value) (M : Mem) (Q : Option Value → Mem → Prop) : Prop :=
  ∀ x : CX, Met (xl x) Y.1 (wsY Y) rm (fun v U => v = (as.map (cv x)).toArray ∧ KN x U ∧ xz x ≤ U.heap.size ∧ Rep x M U.heap) (QC x Q) rm.cells rm.slots (fun q => xz x ≤ q)
/-- locals at a method's entry -/
def lsA (as : List Value) : List (Option Value) := as.flatMap (fun v => if v.category = 2 then [some v, none] else [some v])
def lsE (n : Nat) (as : List Value) : List (Option Value) := lsA as ++ List.replicate (n - (lsA as).length) none
theorem KN.moved {x : CX} {s U : State} (hW : s.WarmedH U.vm) (h : KN x s) : KN x U := by
  obtain ⟨h1, h2, h3, h4, h5, h6, h7, h8⟩ := h
  refine ⟨va_K.moved hW.alike h1, fun a ha cell hc => State.isArrayOf_alike hW.alike (h2 a ha cell hc), fun q hq => va_Nw.warmM hW (h3 q hq), fun q hq => va_Nw.warmF hW (h4 q hq), fun C hC => va_AO.moved hW.alike (h5 C hC), va_Nw.warmD hW h6, va_Nw.warmC hW h7, h8.moved hW.alike⟩
theorem KN.same {x : CX} {s U : State} (hv : s.vm = U.vm) (h : KN x s) : KN x U := by
  obtain ⟨h1, h2, h3, h4, h5, h6, h7, h8⟩ := h
  have hA : s.vm.Alike U.vm := hv ▸ Vm.Alike.refl _
  exact ⟨va_K.moved hA h1, fun a ha cell hc => State.isArrayOf_alike hA (h2 a ha cell hc), fun q hq => (h3 q hq).same rfl hv, fun q hq => (h4 q hq).same rfl hv, fun C hC => va_AO.moved hA (h5 C hC), h6.same rfl hv, h7.same rfl hv, h8.moved hA⟩
theorem LV0.get {x : CX} {la : Array Slot} {ls : List (Option Value)} {n i : Nat} {v : Value} (h : LV0 x la ls n) (hi : ls[i]? = some (some v)) : la[i]? = some (.val (cv x v)) := h.2.2.2 i v hi
def prs (x : CX) (ls : List (Option Value)) : List (Nat × Value) := (List.range ls.length).filterMap (fun i => match ls[i]? with
  | some (some v) => some (i, cv x v)
  | _ => none)
theorem prs_mem {x : CX} {ls : List (Option Value)} {i : Nat} {v : Value} (h : ls[i]? = some (some v)) : (i, cv x v) ∈ prs x ls := by
  refine List.mem_filterMap.mpr ⟨i, List.mem_range.mpr (List.getElem?_eq_some_iff.mp h).1, ?_⟩
  simp [h]
theorem LV0.has {x : CX} {la : Array Slot} {ls : List (Option Value)} {n : Nat} (h : LV0 x la ls n) : lv_has la n (prs x ls) := by
  refine ⟨h.2.1, h.2.2.1, fun q hq => ?_⟩
  obtain ⟨i, -, hi⟩ := List.mem_filterMap.mp hq
  cases hv : ls[i]? with
  | none => simp [hv] at hi
  | some o =>
    cases o with
    | none => simp [hv] at hi
    | some v =>
      simp only [hv, Option.some.injEq] at hi
      subst hi
      exact h.get hv
theorem LV0.of {x : CX} {la : Array Slot} {ls : List (Option Value)} {n : Nat} {l : List (Nat × Value)} (h : lv_has la n l) (hl : ls.length = n) (hall : ∀ (i : Nat) (v : Value), ls[i]? = some (some v) → (i, cv x v) ∈ l) : LV0 x la ls n :=
  ⟨hl, h.1, h.2.1, fun i v hi => h.2.2 (i, cv x v) (hall i v hi)⟩
/-- the place behind which one is stored holds no first half of a long -/
def prevOK (ls : List (Option Value)) (i : Nat) : Prop := ∀ (j : Nat) (w : Value), j + 1 = i → ls[j]? = some (some w) → w.category = 1
theorem LV0.set1 {x : CX} {la' : Array Slot} {ls : List (Option Value)} {n i : Nat} {v : Value} (hn : ls.length = n) (hi : i < n) (hp : prevOK ls i)
    (h : lv_has la' n ((i, cv x v) :: (prs x ls).filter (fun q => !(q.1 == i) && !(q.1 + 1 == i && q.2.category == 2)))) : LV0 x la' (ls.set i (some v)) n := by
  refine LV0.of h (by rw [List.length_set]; exact hn) fun j w hj => ?_
  by_cases hji : j = i
  · subst hji
    rw [List.getElem?_set_self (by omega)] at hj
    cases hj
    exact List.mem_cons_self
  · rw [List.getElem?_set_ne (Ne.symm hji)] at hj
    refine List.mem_cons_of_mem _ (List.mem_filter.mpr ⟨prs_mem hj, ?_⟩)
    have hcat : ¬ (j + 1 = i ∧ (cv x w).category = 2) := fun q => by
      have := hp j w q.1 hj
      rw [cv_cat] at q
      omega
    simp only [Bool.and_eq_true, Bool.not_eq_true', beq_eq_false_iff_ne, ne_eq, Bool.and_eq_false_iff]
    refine ⟨hji, ?_⟩
    by_cases h1 : j + 1 = i
    · exact Or.inr (fun q => hcat ⟨h1, q⟩)
    · exact Or.inl h1
theorem LV0.set2 {x : CX} {la' : Array Slot} {ls : List (Option Value)} {n i : Nat} {v : Value} (hn : ls.length = n) (hi : i + 1 < n) (hp : prevOK ls i)
    (h : lv_has la' n ((i, cv x v) :: (prs x ls).filter (fun q => !(q.1 == i) && (!(q.1 == i + 1) && !(q.1 + 1 == i && q.2.category == 2))))) : LV0 x la' ((ls.set i (some v)).set (i + 1) none) n := by
  refine LV0.of h (by rw [List.length_set, List.length_set]; exact hn) fun j w hj => ?_
  by_cases hj1 : j = i + 1
  · subst hj1
    rw [List.getElem?_set_self (by rw [List.length_set]; omega)] at hj
    cases hj
  · rw [List.getElem?_set_ne (Ne.symm hj1)] at hj
    by_cases hji : j = i
    · subst hji
      rw [List.getElem?_set_self (by omega)] at hj
      cases hj
      exact List.mem_cons_self
    · rw [List.getElem?_set_ne (Ne.symm hji)] at hj
      refine List.mem_cons_of_mem _ (List.mem_filter.mpr ⟨prs_mem hj, ?_⟩)
      have hcat : ¬ (j + 1 = i ∧ (cv x w).category = 2) := fun q => by
        have := hp j w q.1 hj
        rw [cv_cat] at q
        omega
      simp only [Bool.and_eq_true, Bool.not_eq_true', beq_eq_false_iff_ne, ne_eq, Bool.and_eq_false_iff]
      refine ⟨hji, hj1, ?_⟩
      by_cases h1 : j + 1 = i
      · exact Or.inr (fun q => hcat ⟨h1, q⟩)
      · exact Or.inl h1
theorem lsA_lg (x : CX) (as : List Value) : (lg_sl (as.map (cv x))).length = (lsA as).length := by
  induction as with
  | nil => rfl
  | cons v vs ih =>
    simp only [lg_sl, lsA, List.map_cons, List.flatMap_cons, List.length_append, cv_cat] at ih ⊢
    rw [ih]
    by_cases h : v.category = 2 <;> simp [h]
theorem lsA_args (x : CX) : ∀ (as : List Value) (k i : Nat) (v : Value), (lsA as)[i]? = some (some v) → (k + i, cv x v) ∈ lv_args k (as.map (cv x))
  | [], k, i, v, h => by simp [lsA] at h
  | w :: ws, k, i, v, h => by
    simp only [List.map_cons, lv_args, cv_cat]
    by_cases hc : w.category = 2
    · simp only [lsA, List.flatMap_cons, hc, if_true] at h ⊢
      match i with
      | 0 => simp at h; subst h; exact List.mem_cons_self
      | 1 => simp at h
      | i + 2 =>
        have h' : (lsA ws)[i]? = some (some v) := by simpa [lsA] using h
        have := lsA_args x ws (k + 2) i v h'
        rw [show k + (i + 2) = k + 2 + i by omega]
        exact List.mem_cons_of_mem _ this
    · simp only [lsA, List.flatMap_cons, hc, if_false] at h ⊢
      match i with
      | 0 => simp at h; subst h; exact List.mem_cons_self
      | i + 1 =>
        have h' : (lsA ws)[i]? = some (some v) := by simpa [lsA] using h
        have := lsA_args x ws (k + 1) i v h'
        rw [show k + (i + 1) = k + 1 + i by omega]
        exact List.mem_cons_of_mem _ this
theorem lsE_at {as : List Value} {n i : Nat} {v : Value} (h : (lsE n as)[i]? = some (some v)) : (lsA as)[i]? = some (some v) := by
  unfold lsE at h
  by_cases hi : i < (lsA as).length
  · rw [List.getElem?_append_left hi] at h
    exact h
  · rw [List.getElem?_append_right (by omega)] at h
    have := List.eq_of_mem_replicate (List.mem_of_getElem? h)
    cases this
/-- a method's body gives its contract -/
theorem am_of {Y : YY} {rm : Room} {as : List Value} {M : Mem} {Q : Option Value → Mem → Prop} {ls : List (Option Value)} (hy : plainName Y.1.cls = true) (hl : Nat.ble (lsA as).length Y.2.2.1 = true) (hls : lsE Y.2.2.1 as = ls) (h : AW Y rm Q 0 ls [] M 0 0) : AM Y rm as M Q := by
  intro x
  have hlen : (lsA as).length ≤ Y.2.2.1 := Nat.le_of_ble_eq_true hl
  refine Met.ofW (cc := Y.2.1) (maxL := Y.2.2.1) (ret := Y.2.2.2) hy rfl ?_
  intro p e s m args below meth c s₁ B hml hv
  obtain ⟨rfl, hK, hz, hR⟩ := hv
  have hts := atoms_spec (ws := wsY Y) B.pre
  have hC : CT x Y p s m (as.map (cv x)).toArray meth c := ⟨B.exec, B.bytes, hml, B.returns, findClass_of_methodNamed B.named, fun w hw => hts w (List.mem_cons_of_mem _ hw), B.notSynchronized, (name_of_methodNamed B.named B.method).1, hK, hz⟩
  have hv := lv_entry (as.map (cv x)) (n := Y.2.2.1) (by rw [lsA_lg]; exact hlen)
  rw [lg_entry_eq]
  refine h x p e s m _ below meth c s.heap [] _ hC hR ?_ (fun q hq => by cases hq)
  subst hls
  refine LV0.of hv (by simp [lsE]; omega) fun i v hi => ?_
  have := lsA_args x as 0 i v (lsE_at hi)
  rw [Nat.zero_add] at this
  exact this
