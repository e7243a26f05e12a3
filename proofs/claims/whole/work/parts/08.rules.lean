/-! rules of the abstract machine for instructions that touch no cell (by program: gen/rules.py) -/
section
variable {Y : YY} {R : Room} {Q : Option Value → Mem → Prop} {ls : List (Option Value)} {st : List Value} {M : Mem} {cs ss : Nat}
theorem aw_icm1 (pc : Nat)  (hd : decode Y.2.1 pc = .ok (.iconst (-1), 1)) (kk : AW Y R Q (pc + 1) ls (.int (-1) :: st) M cs ss) : AW Y R Q pc ls (st) M cs ss :=
  fun x p e s m args below meth c H locs la hC hR hL hq => lv_iconst (v := (-1)) hC.1 hC.2.1 hd (by decide) (kk x p e s m args below meth c H locs la hC hR hL hq)
theorem aw_ic0 (pc : Nat)  (hd : decode Y.2.1 pc = .ok (.iconst 0, 1)) (kk : AW Y R Q (pc + 1) ls (.int 0 :: st) M cs ss) : AW Y R Q pc ls (st) M cs ss :=
  fun x p e s m args below meth c H locs la hC hR hL hq => lv_iconst (v := 0) hC.1 hC.2.1 hd (by decide) (kk x p e s m args below meth c H locs la hC hR hL hq)
theorem aw_ic1 (pc : Nat)  (hd : decode Y.2.1 pc = .ok (.iconst 1, 1)) (kk : AW Y R Q (pc + 1) ls (.int 1 :: st) M cs ss) : AW Y R Q pc ls (st) M cs ss :=
  fun x p e s m args below meth c H locs la hC hR hL hq => lv_iconst (v := 1) hC.1 hC.2.1 hd (by decide) (kk x p e s m args below meth c H locs la hC hR hL hq)
theorem aw_ic2 (pc : Nat)  (hd : decode Y.2.1 pc = .ok (.iconst 2, 1)) (kk : AW Y R Q (pc + 1) ls (.int 2 :: st) M cs ss) : AW Y R Q pc ls (st) M cs ss :=
  fun x p e s m args below meth c H locs la hC hR hL hq => lv_iconst (v := 2) hC.1 hC.2.1 hd (by decide) (kk x p e s m args below meth c H locs la hC hR hL hq)
theorem aw_ic3 (pc : Nat)  (hd : decode Y.2.1 pc = .ok (.iconst 3, 1)) (kk : AW Y R Q (pc + 1) ls (.int 3 :: st) M cs ss) : AW Y R Q pc ls (st) M cs ss :=
  fun x p e s m args below meth c H locs la hC hR hL hq => lv_iconst (v := 3) hC.1 hC.2.1 hd (by decide) (kk x p e s m args below meth c H locs la hC hR hL hq)
theorem aw_ic4 (pc : Nat)  (hd : decode Y.2.1 pc = .ok (.iconst 4, 1)) (kk : AW Y R Q (pc + 1) ls (.int 4 :: st) M cs ss) : AW Y R Q pc ls (st) M cs ss :=
  fun x p e s m args below meth c H locs la hC hR hL hq => lv_iconst (v := 4) hC.1 hC.2.1 hd (by decide) (kk x p e s m args below meth c H locs la hC hR hL hq)
theorem aw_ic5 (pc : Nat)  (hd : decode Y.2.1 pc = .ok (.iconst 5, 1)) (kk : AW Y R Q (pc + 1) ls (.int 5 :: st) M cs ss) : AW Y R Q pc ls (st) M cs ss :=
  fun x p e s m args below meth c H locs la hC hR hL hq => lv_iconst (v := 5) hC.1 hC.2.1 hd (by decide) (kk x p e s m args below meth c H locs la hC hR hL hq)
theorem aw_bipush (pc : Nat) {n : Int} (v : Int32) (hd : decode Y.2.1 pc = .ok (.bipush n, 2)) (hv : (Int8.ofInt n).toInt32 = v) (kk : AW Y R Q (pc + 2) ls (.int v :: st) M cs ss) : AW Y R Q pc ls (st) M cs ss :=
  fun x p e s m args below meth c H locs la hC hR hL hq => lv_bipush hC.1 hC.2.1 hd hv (kk x p e s m args below meth c H locs la hC hR hL hq)
theorem aw_sipush (pc : Nat) {n : Int} (v : Int32) (hd : decode Y.2.1 pc = .ok (.sipush n, 3)) (hv : (Int16.ofInt n).toInt32 = v) (kk : AW Y R Q (pc + 3) ls (.int v :: st) M cs ss) : AW Y R Q pc ls (st) M cs ss :=
  fun x p e s m args below meth c H locs la hC hR hL hq => lv_sipush hC.1 hC.2.1 hd hv (kk x p e s m args below meth c H locs la hC hR hL hq)
theorem aw_lc0 (pc : Nat)  (hd : decode Y.2.1 pc = .ok (.lconst 0, 1)) (kk : AW Y R Q (pc + 1) ls (.long 0 :: st) M cs ss) : AW Y R Q pc ls (st) M cs ss :=
  fun x p e s m args below meth c H locs la hC hR hL hq => lv_lconst (v := 0) hC.1 hC.2.1 hd (by decide) (kk x p e s m args below meth c H locs la hC hR hL hq)
theorem aw_lc1 (pc : Nat)  (hd : decode Y.2.1 pc = .ok (.lconst 1, 1)) (kk : AW Y R Q (pc + 1) ls (.long 1 :: st) M cs ss) : AW Y R Q pc ls (st) M cs ss :=
  fun x p e s m args below meth c H locs la hC hR hL hq => lv_lconst (v := 1) hC.1 hC.2.1 hd (by decide) (kk x p e s m args below meth c H locs la hC hR hL hq)
theorem aw_null (pc : Nat)  (hd : decode Y.2.1 pc = .ok (.aconst_null, 1)) (kk : AW Y R Q (pc + 1) ls (.null :: st) M cs ss) : AW Y R Q pc ls (st) M cs ss :=
  fun x p e s m args below meth c H locs la hC hR hL hq => lv_null hC.1 hC.2.1 hd (kk x p e s m args below meth c H locs la hC hR hL hq)
theorem aw_iload0 (pc : Nat) {t : List (Option Value)} {v : Int32} (hd : decode Y.2.1 pc = .ok (.iload_n 0, 1)) (kk : AW Y R Q (pc + 1) (some (.int v) :: t) (.int v :: st) M cs ss) : AW Y R Q pc (some (.int v) :: t) (st) M cs ss :=
  fun x p e s m args below meth c H locs la hC hR hL hq => lv_iload_n hC.1 hC.2.1 hd rfl (hL.get (i := 0) (v := .int v) rfl) (kk x p e s m args below meth c H locs la hC hR hL hq)
theorem aw_lload0 (pc : Nat) {t : List (Option Value)} {v : Int64} (hd : decode Y.2.1 pc = .ok (.lload_n 0, 1)) (kk : AW Y R Q (pc + 1) (some (.long v) :: t) (.long v :: st) M cs ss) : AW Y R Q pc (some (.long v) :: t) (st) M cs ss :=
  fun x p e s m args below meth c H locs la hC hR hL hq => lv_lload_n hC.1 hC.2.1 hd rfl (hL.get (i := 0) (v := .long v) rfl) (kk x p e s m args below meth c H locs la hC hR hL hq)
theorem aw_aload0 (pc : Nat) {t : List (Option Value)} {v : Nat} (hd : decode Y.2.1 pc = .ok (.aload_n 0, 1)) (kk : AW Y R Q (pc + 1) (some (.ref v) :: t) (.ref v :: st) M cs ss) : AW Y R Q pc (some (.ref v) :: t) (st) M cs ss :=
  fun x p e s m args below meth c H locs la hC hR hL hq => lv_aload_n hC.1 hC.2.1 hd rfl (hL.get (i := 0) (v := .ref v) rfl) (kk x p e s m args below meth c H locs la hC hR hL hq)
theorem aw_aloadN0 (pc : Nat) {t : List (Option Value)} (hd : decode Y.2.1 pc = .ok (.aload_n 0, 1)) (kk : AW Y R Q (pc + 1) (some .null :: t) (.null :: st) M cs ss) : AW Y R Q pc (some .null :: t) (st) M cs ss :=
  fun x p e s m args below meth c H locs la hC hR hL hq => lv_aload_nN hC.1 hC.2.1 hd rfl (hL.get (i := 0) (v := .null) rfl) (kk x p e s m args below meth c H locs la hC hR hL hq)
theorem aw_iload1 (pc : Nat) {a0 : Option Value} {t : List (Option Value)} {v : Int32} (hd : decode Y.2.1 pc = .ok (.iload_n 1, 1)) (kk : AW Y R Q (pc + 1) (a0 :: some (.int v) :: t) (.int v :: st) M cs ss) : AW Y R Q pc (a0 :: some (.int v) :: t) (st) M cs ss :=
  fun x p e s m args below meth c H locs la hC hR hL hq => lv_iload_n hC.1 hC.2.1 hd rfl (hL.get (i := 1) (v := .int v) rfl) (kk x p e s m args below meth c H locs la hC hR hL hq)
theorem aw_lload1 (pc : Nat) {a0 : Option Value} {t : List (Option Value)} {v : Int64} (hd : decode Y.2.1 pc = .ok (.lload_n 1, 1)) (kk : AW Y R Q (pc + 1) (a0 :: some (.long v) :: t) (.long v :: st) M cs ss) : AW Y R Q pc (a0 :: some (.long v) :: t) (st) M cs ss :=
  fun x p e s m args below meth c H locs la hC hR hL hq => lv_lload_n hC.1 hC.2.1 hd rfl (hL.get (i := 1) (v := .long v) rfl) (kk x p e s m args below meth c H locs la hC hR hL hq)
theorem aw_aload1 (pc : Nat) {a0 : Option Value} {t : List (Option Value)} {v : Nat} (hd : decode Y.2.1 pc = .ok (.aload_n 1, 1)) (kk : AW Y R Q (pc + 1) (a0 :: some (.ref v) :: t) (.ref v :: st) M cs ss) : AW Y R Q pc (a0 :: some (.ref v) :: t) (st) M cs ss :=
  fun x p e s m args below meth c H locs la hC hR hL hq => lv_aload_n hC.1 hC.2.1 hd rfl (hL.get (i := 1) (v := .ref v) rfl) (kk x p e s m args below meth c H locs la hC hR hL hq)
theorem aw_aloadN1 (pc : Nat) {a0 : Option Value} {t : List (Option Value)} (hd : decode Y.2.1 pc = .ok (.aload_n 1, 1)) (kk : AW Y R Q (pc + 1) (a0 :: some .null :: t) (.null :: st) M cs ss) : AW Y R Q pc (a0 :: some .null :: t) (st) M cs ss :=
  fun x p e s m args below meth c H locs la hC hR hL hq => lv_aload_nN hC.1 hC.2.1 hd rfl (hL.get (i := 1) (v := .null) rfl) (kk x p e s m args below meth c H locs la hC hR hL hq)
theorem aw_iload2 (pc : Nat) {a0 a1 : Option Value} {t : List (Option Value)} {v : Int32} (hd : decode Y.2.1 pc = .ok (.iload_n 2, 1)) (kk : AW Y R Q (pc + 1) (a0 :: a1 :: some (.int v) :: t) (.int v :: st) M cs ss) : AW Y R Q pc (a0 :: a1 :: some (.int v) :: t) (st) M cs ss :=
  fun x p e s m args below meth c H locs la hC hR hL hq => lv_iload_n hC.1 hC.2.1 hd rfl (hL.get (i := 2) (v := .int v) rfl) (kk x p e s m args below meth c H locs la hC hR hL hq)
theorem aw_lload2 (pc : Nat) {a0 a1 : Option Value} {t : List (Option Value)} {v : Int64} (hd : decode Y.2.1 pc = .ok (.lload_n 2, 1)) (kk : AW Y R Q (pc + 1) (a0 :: a1 :: some (.long v) :: t) (.long v :: st) M cs ss) : AW Y R Q pc (a0 :: a1 :: some (.long v) :: t) (st) M cs ss :=
  fun x p e s m args below meth c H locs la hC hR hL hq => lv_lload_n hC.1 hC.2.1 hd rfl (hL.get (i := 2) (v := .long v) rfl) (kk x p e s m args below meth c H locs la hC hR hL hq)
theorem aw_aload2 (pc : Nat) {a0 a1 : Option Value} {t : List (Option Value)} {v : Nat} (hd : decode Y.2.1 pc = .ok (.aload_n 2, 1)) (kk : AW Y R Q (pc + 1) (a0 :: a1 :: some (.ref v) :: t) (.ref v :: st) M cs ss) : AW Y R Q pc (a0 :: a1 :: some (.ref v) :: t) (st) M cs ss :=
  fun x p e s m args below meth c H locs la hC hR hL hq => lv_aload_n hC.1 hC.2.1 hd rfl (hL.get (i := 2) (v := .ref v) rfl) (kk x p e s m args below meth c H locs la hC hR hL hq)
theorem aw_aloadN2 (pc : Nat) {a0 a1 : Option Value} {t : List (Option Value)} (hd : decode Y.2.1 pc = .ok (.aload_n 2, 1)) (kk : AW Y R Q (pc + 1) (a0 :: a1 :: some .null :: t) (.null :: st) M cs ss) : AW Y R Q pc (a0 :: a1 :: some .null :: t) (st) M cs ss :=
  fun x p e s m args below meth c H locs la hC hR hL hq => lv_aload_nN hC.1 hC.2.1 hd rfl (hL.get (i := 2) (v := .null) rfl) (kk x p e s m args below meth c H locs la hC hR hL hq)
theorem aw_iload3 (pc : Nat) {a0 a1 a2 : Option Value} {t : List (Option Value)} {v : Int32} (hd : decode Y.2.1 pc = .ok (.iload_n 3, 1)) (kk : AW Y R Q (pc + 1) (a0 :: a1 :: a2 :: some (.int v) :: t) (.int v :: st) M cs ss) : AW Y R Q pc (a0 :: a1 :: a2 :: some (.int v) :: t) (st) M cs ss :=
  fun x p e s m args below meth c H locs la hC hR hL hq => lv_iload_n hC.1 hC.2.1 hd rfl (hL.get (i := 3) (v := .int v) rfl) (kk x p e s m args below meth c H locs la hC hR hL hq)
theorem aw_lload3 (pc : Nat) {a0 a1 a2 : Option Value} {t : List (Option Value)} {v : Int64} (hd : decode Y.2.1 pc = .ok (.lload_n 3, 1)) (kk : AW Y R Q (pc + 1) (a0 :: a1 :: a2 :: some (.long v) :: t) (.long v :: st) M cs ss) : AW Y R Q pc (a0 :: a1 :: a2 :: some (.long v) :: t) (st) M cs ss :=
  fun x p e s m args below meth c H locs la hC hR hL hq => lv_lload_n hC.1 hC.2.1 hd rfl (hL.get (i := 3) (v := .long v) rfl) (kk x p e s m args below meth c H locs la hC hR hL hq)
theorem aw_aload3 (pc : Nat) {a0 a1 a2 : Option Value} {t : List (Option Value)} {v : Nat} (hd : decode Y.2.1 pc = .ok (.aload_n 3, 1)) (kk : AW Y R Q (pc + 1) (a0 :: a1 :: a2 :: some (.ref v) :: t) (.ref v :: st) M cs ss) : AW Y R Q pc (a0 :: a1 :: a2 :: some (.ref v) :: t) (st) M cs ss :=
  fun x p e s m args below meth c H locs la hC hR hL hq => lv_aload_n hC.1 hC.2.1 hd rfl (hL.get (i := 3) (v := .ref v) rfl) (kk x p e s m args below meth c H locs la hC hR hL hq)
theorem aw_aloadN3 (pc : Nat) {a0 a1 a2 : Option Value} {t : List (Option Value)} (hd : decode Y.2.1 pc = .ok (.aload_n 3, 1)) (kk : AW Y R Q (pc + 1) (a0 :: a1 :: a2 :: some .null :: t) (.null :: st) M cs ss) : AW Y R Q pc (a0 :: a1 :: a2 :: some .null :: t) (st) M cs ss :=
  fun x p e s m args below meth c H locs la hC hR hL hq => lv_aload_nN hC.1 hC.2.1 hd rfl (hL.get (i := 3) (v := .null) rfl) (kk x p e s m args below meth c H locs la hC hR hL hq)
theorem aw_iload4 (pc : Nat) {a0 a1 a2 a3 : Option Value} {t : List (Option Value)} {v : Int32} (hd : decode Y.2.1 pc = .ok (.iload 4, 2)) (kk : AW Y R Q (pc + 2) (a0 :: a1 :: a2 :: a3 :: some (.int v) :: t) (.int v :: st) M cs ss) : AW Y R Q pc (a0 :: a1 :: a2 :: a3 :: some (.int v) :: t) (st) M cs ss :=
  fun x p e s m args below meth c H locs la hC hR hL hq => lv_iload hC.1 hC.2.1 hd (hL.get (i := 4) (v := .int v) rfl) (kk x p e s m args below meth c H locs la hC hR hL hq)
theorem aw_lload4 (pc : Nat) {a0 a1 a2 a3 : Option Value} {t : List (Option Value)} {v : Int64} (hd : decode Y.2.1 pc = .ok (.lload 4, 2)) (kk : AW Y R Q (pc + 2) (a0 :: a1 :: a2 :: a3 :: some (.long v) :: t) (.long v :: st) M cs ss) : AW Y R Q pc (a0 :: a1 :: a2 :: a3 :: some (.long v) :: t) (st) M cs ss :=
  fun x p e s m args below meth c H locs la hC hR hL hq => lv_lload hC.1 hC.2.1 hd (hL.get (i := 4) (v := .long v) rfl) (kk x p e s m args below meth c H locs la hC hR hL hq)
theorem aw_aload4 (pc : Nat) {a0 a1 a2 a3 : Option Value} {t : List (Option Value)} {v : Nat} (hd : decode Y.2.1 pc = .ok (.aload 4, 2)) (kk : AW Y R Q (pc + 2) (a0 :: a1 :: a2 :: a3 :: some (.ref v) :: t) (.ref v :: st) M cs ss) : AW Y R Q pc (a0 :: a1 :: a2 :: a3 :: some (.ref v) :: t) (st) M cs ss :=
  fun x p e s m args below meth c H locs la hC hR hL hq => lv_aload hC.1 hC.2.1 hd (hL.get (i := 4) (v := .ref v) rfl) (kk x p e s m args below meth c H locs la hC hR hL hq)
theorem aw_aloadN4 (pc : Nat) {a0 a1 a2 a3 : Option Value} {t : List (Option Value)} (hd : decode Y.2.1 pc = .ok (.aload 4, 2)) (kk : AW Y R Q (pc + 2) (a0 :: a1 :: a2 :: a3 :: some .null :: t) (.null :: st) M cs ss) : AW Y R Q pc (a0 :: a1 :: a2 :: a3 :: some .null :: t) (st) M cs ss :=
  fun x p e s m args below meth c H locs la hC hR hL hq => lv_aloadN hC.1 hC.2.1 hd (hL.get (i := 4) (v := .null) rfl) (kk x p e s m args below meth c H locs la hC hR hL hq)
theorem aw_iload5 (pc : Nat) {a0 a1 a2 a3 a4 : Option Value} {t : List (Option Value)} {v : Int32} (hd : decode Y.2.1 pc = .ok (.iload 5, 2)) (kk : AW Y R Q (pc + 2) (a0 :: a1 :: a2 :: a3 :: a4 :: some (.int v) :: t) (.int v :: st) M cs ss) : AW Y R Q pc (a0 :: a1 :: a2 :: a3 :: a4 :: some (.int v) :: t) (st) M cs ss :=
  fun x p e s m args below meth c H locs la hC hR hL hq => lv_iload hC.1 hC.2.1 hd (hL.get (i := 5) (v := .int v) rfl) (kk x p e s m args below meth c H locs la hC hR hL hq)
theorem aw_lload5 (pc : Nat) {a0 a1 a2 a3 a4 : Option Value} {t : List (Option Value)} {v : Int64} (hd : decode Y.2.1 pc = .ok (.lload 5, 2)) (kk : AW Y R Q (pc + 2) (a0 :: a1 :: a2 :: a3 :: a4 :: some (.long v) :: t) (.long v :: st) M cs ss) : AW Y R Q pc (a0 :: a1 :: a2 :: a3 :: a4 :: some (.long v) :: t) (st) M cs ss :=
  fun x p e s m args below meth c H locs la hC hR hL hq => lv_lload hC.1 hC.2.1 hd (hL.get (i := 5) (v := .long v) rfl) (kk x p e s m args below meth c H locs la hC hR hL hq)
theorem aw_aload5 (pc : Nat) {a0 a1 a2 a3 a4 : Option Value} {t : List (Option Value)} {v : Nat} (hd : decode Y.2.1 pc = .ok (.aload 5, 2)) (kk : AW Y R Q (pc + 2) (a0 :: a1 :: a2 :: a3 :: a4 :: some (.ref v) :: t) (.ref v :: st) M cs ss) : AW Y R Q pc (a0 :: a1 :: a2 :: a3 :: a4 :: some (.ref v) :: t) (st) M cs ss :=
  fun x p e s m args below meth c H locs la hC hR hL hq => lv_aload hC.1 hC.2.1 hd (hL.get (i := 5) (v := .ref v) rfl) (kk x p e s m args below meth c H locs la hC hR hL hq)
theorem aw_aloadN5 (pc : Nat) {a0 a1 a2 a3 a4 : Option Value} {t : List (Option Value)} (hd : decode Y.2.1 pc = .ok (.aload 5, 2)) (kk : AW Y R Q (pc + 2) (a0 :: a1 :: a2 :: a3 :: a4 :: some .null :: t) (.null :: st) M cs ss) : AW Y R Q pc (a0 :: a1 :: a2 :: a3 :: a4 :: some .null :: t) (st) M cs ss :=
  fun x p e s m args below meth c H locs la hC hR hL hq => lv_aloadN hC.1 hC.2.1 hd (hL.get (i := 5) (v := .null) rfl) (kk x p e s m args below meth c H locs la hC hR hL hq)
theorem aw_iload6 (pc : Nat) {a0 a1 a2 a3 a4 a5 : Option Value} {t : List (Option Value)} {v : Int32} (hd : decode Y.2.1 pc = .ok (.iload 6, 2)) (kk : AW Y R Q (pc + 2) (a0 :: a1 :: a2 :: a3 :: a4 :: a5 :: some (.int v) :: t) (.int v :: st) M cs ss) : AW Y R Q pc (a0 :: a1 :: a2 :: a3 :: a4 :: a5 :: some (.int v) :: t) (st) M cs ss :=
  fun x p e s m args below meth c H locs la hC hR hL hq => lv_iload hC.1 hC.2.1 hd (hL.get (i := 6) (v := .int v) rfl) (kk x p e s m args below meth c H locs la hC hR hL hq)
theorem aw_lload6 (pc : Nat) {a0 a1 a2 a3 a4 a5 : Option Value} {t : List (Option Value)} {v : Int64} (hd : decode Y.2.1 pc = .ok (.lload 6, 2)) (kk : AW Y R Q (pc + 2) (a0 :: a1 :: a2 :: a3 :: a4 :: a5 :: some (.long v) :: t) (.long v :: st) M cs ss) : AW Y R Q pc (a0 :: a1 :: a2 :: a3 :: a4 :: a5 :: some (.long v) :: t) (st) M cs ss :=
  fun x p e s m args below meth c H locs la hC hR hL hq => lv_lload hC.1 hC.2.1 hd (hL.get (i := 6) (v := .long v) rfl) (kk x p e s m args below meth c H locs la hC hR hL hq)
theorem aw_aload6 (pc : Nat) {a0 a1 a2 a3 a4 a5 : Option Value} {t : List (Option Value)} {v : Nat} (hd : decode Y.2.1 pc = .ok (.aload 6, 2)) (kk : AW Y R Q (pc + 2) (a0 :: a1 :: a2 :: a3 :: a4 :: a5 :: some (.ref v) :: t) (.ref v :: st) M cs ss) : AW Y R Q pc (a0 :: a1 :: a2 :: a3 :: a4 :: a5 :: some (.ref v) :: t) (st) M cs ss :=
  fun x p e s m args below meth c H locs la hC hR hL hq => lv_aload hC.1 hC.2.1 hd (hL.get (i := 6) (v := .ref v) rfl) (kk x p e s m args below meth c H locs la hC hR hL hq)
theorem aw_aloadN6 (pc : Nat) {a0 a1 a2 a3 a4 a5 : Option Value} {t : List (Option Value)} (hd : decode Y.2.1 pc = .ok (.aload 6, 2)) (kk : AW Y R Q (pc + 2) (a0 :: a1 :: a2 :: a3 :: a4 :: a5 :: some .null :: t) (.null :: st) M cs ss) : AW Y R Q pc (a0 :: a1 :: a2 :: a3 :: a4 :: a5 :: some .null :: t) (st) M cs ss :=
  fun x p e s m args below meth c H locs la hC hR hL hq => lv_aloadN hC.1 hC.2.1 hd (hL.get (i := 6) (v := .null) rfl) (kk x p e s m args below meth c H locs la hC hR hL hq)
theorem aw_iload7 (pc : Nat) {a0 a1 a2 a3 a4 a5 a6 : Option Value} {t : List (Option Value)} {v : Int32} (hd : decode Y.2.1 pc = .ok (.iload 7, 2)) (kk : AW Y R Q (pc + 2) (a0 :: a1 :: a2 :: a3 :: a4 :: a5 :: a6 :: some (.int v) :: t) (.int v :: st) M cs ss) : AW Y R Q pc (a0 :: a1 :: a2 :: a3 :: a4 :: a5 :: a6 :: some (.int v) :: t) (st) M cs ss :=
  fun x p e s m args below meth c H locs la hC hR hL hq => lv_iload hC.1 hC.2.1 hd (hL.get (i := 7) (v := .int v) rfl) (kk x p e s m args below meth c H locs la hC hR hL hq)
theorem aw_lload7 (pc : Nat) {a0 a1 a2 a3 a4 a5 a6 : Option Value} {t : List (Option Value)} {v : Int64} (hd : decode Y.2.1 pc = .ok (.lload 7, 2)) (kk : AW Y R Q (pc + 2) (a0 :: a1 :: a2 :: a3 :: a4 :: a5 :: a6 :: some (.long v) :: t) (.long v :: st) M cs ss) : AW Y R Q pc (a0 :: a1 :: a2 :: a3 :: a4 :: a5 :: a6 :: some (.long v) :: t) (st) M cs ss :=
  fun x p e s m args below meth c H locs la hC hR hL hq => lv_lload hC.1 hC.2.1 hd (hL.get (i := 7) (v := .long v) rfl) (kk x p e s m args below meth c H locs la hC hR hL hq)
theorem aw_aload7 (pc : Nat) {a0 a1 a2 a3 a4 a5 a6 : Option Value} {t : List (Option Value)} {v : Nat} (hd : decode Y.2.1 pc = .ok (.aload 7, 2)) (kk : AW Y R Q (pc + 2) (a0 :: a1 :: a2 :: a3 :: a4 :: a5 :: a6 :: some (.ref v) :: t) (.ref v :: st) M cs ss) : AW Y R Q pc (a0 :: a1 :: a2 :: a3 :: a4 :: a5 :: a6 :: some (.ref v) :: t) (st) M cs ss :=
  fun x p e s m args below meth c H locs la hC hR hL hq => lv_aload hC.1 hC.2.1 hd (hL.get (i := 7) (v := .ref v) rfl) (kk x p e s m args below meth c H locs la hC hR hL hq)
theorem aw_aloadN7 (pc : Nat) {a0 a1 a2 a3 a4 a5 a6 : Option Value} {t : List (Option Value)} (hd : decode Y.2.1 pc = .ok (.aload 7, 2)) (kk : AW Y R Q (pc + 2) (a0 :: a1 :: a2 :: a3 :: a4 :: a5 :: a6 :: some .null :: t) (.null :: st) M cs ss) : AW Y R Q pc (a0 :: a1 :: a2 :: a3 :: a4 :: a5 :: a6 :: some .null :: t) (st) M cs ss :=
  fun x p e s m args below meth c H locs la hC hR hL hq => lv_aloadN hC.1 hC.2.1 hd (hL.get (i := 7) (v := .null) rfl) (kk x p e s m args below meth c H locs la hC hR hL hq)
theorem aw_iload8 (pc : Nat) {a0 a1 a2 a3 a4 a5 a6 a7 : Option Value} {t : List (Option Value)} {v : Int32} (hd : decode Y.2.1 pc = .ok (.iload 8, 2)) (kk : AW Y R Q (pc + 2) (a0 :: a1 :: a2 :: a3 :: a4 :: a5 :: a6 :: a7 :: some (.int v) :: t) (.int v :: st) M cs ss) : AW Y R Q pc (a0 :: a1 :: a2 :: a3 :: a4 :: a5 :: a6 :: a7 :: some (.int v) :: t) (st) M cs ss :=
  fun x p e s m args below meth c H locs la hC hR hL hq => lv_iload hC.1 hC.2.1 hd (hL.get (i := 8) (v := .int v) rfl) (kk x p e s m args below meth c H locs la hC hR hL hq)
theorem aw_lload8 (pc : Nat) {a0 a1 a2 a3 a4 a5 a6 a7 : Option Value} {t : List (Option Value)} {v : Int64} (hd : decode Y.2.1 pc = .ok (.lload 8, 2)) (kk : AW Y R Q (pc + 2) (a0 :: a1 :: a2 :: a3 :: a4 :: a5 :: a6 :: a7 :: some (.long v) :: t) (.long v :: st) M cs ss) : AW Y R Q pc (a0 :: a1 :: a2 :: a3 :: a4 :: a5 :: a6 :: a7 :: some (.long v) :: t) (st) M cs ss :=
  fun x p e s m args below meth c H locs la hC hR hL hq => lv_lload hC.1 hC.2.1 hd (hL.get (i := 8) (v := .long v) rfl) (kk x p e s m args below meth c H locs la hC hR hL hq)
theorem aw_aload8 (pc : Nat) {a0 a1 a2 a3 a4 a5 a6 a7 : Option Value} {t : List (Option Value)} {v : Nat} (hd : decode Y.2.1 pc = .ok (.aload 8, 2)) (kk : AW Y R Q (pc + 2) (a0 :: a1 :: a2 :: a3 :: a4 :: a5 :: a6 :: a7 :: some (.ref v) :: t) (.ref v :: st) M cs ss) : AW Y R Q pc (a0 :: a1 :: a2 :: a3 :: a4 :: a5 :: a6 :: a7 :: some (.ref v) :: t) (st) M cs ss :=
  fun x p e s m args below meth c H locs la hC hR hL hq => lv_aload hC.1 hC.2.1 hd (hL.get (i := 8) (v := .ref v) rfl) (kk x p e s m args below meth c H locs la hC hR hL hq)
theorem aw_aloadN8 (pc : Nat) {a0 a1 a2 a3 a4 a5 a6 a7 : Option Value} {t : List (Option Value)} (hd : decode Y.2.1 pc = .ok (.aload 8, 2)) (kk : AW Y R Q (pc + 2) (a0 :: a1 :: a2 :: a3 :: a4 :: a5 :: a6 :: a7 :: some .null :: t) (.null :: st) M cs ss) : AW Y R Q pc (a0 :: a1 :: a2 :: a3 :: a4 :: a5 :: a6 :: a7 :: some .null :: t) (st) M cs ss :=
  fun x p e s m args below meth c H locs la hC hR hL hq => lv_aloadN hC.1 hC.2.1 hd (hL.get (i := 8) (v := .null) rfl) (kk x p e s m args below meth c H locs la hC hR hL hq)
theorem aw_iload9 (pc : Nat) {a0 a1 a2 a3 a4 a5 a6 a7 a8 : Option Value} {t : List (Option Value)} {v : Int32} (hd : decode Y.2.1 pc = .ok (.iload 9, 2)) (kk : AW Y R Q (pc + 2) (a0 :: a1 :: a2 :: a3 :: a4 :: a5 :: a6 :: a7 :: a8 :: some (.int v) :: t) (.int v :: st) M cs ss) : AW Y R Q pc (a0 :: a1 :: a2 :: a3 :: a4 :: a5 :: a6 :: a7 :: a8 :: some (.int v) :: t) (st) M cs ss :=
  fun x p e s m args below meth c H locs la hC hR hL hq => lv_iload hC.1 hC.2.1 hd (hL.get (i := 9) (v := .int v) rfl) (kk x p e s m args below meth c H locs la hC hR hL hq)
theorem aw_lload9 (pc : Nat) {a0 a1 a2 a3 a4 a5 a6 a7 a8 : Option Value} {t : List (Option Value)} {v : Int64} (hd : decode Y.2.1 pc = .ok (.lload 9, 2)) (kk : AW Y R Q (pc + 2) (a0 :: a1 :: a2 :: a3 :: a4 :: a5 :: a6 :: a7 :: a8 :: some (.long v) :: t) (.long v :: st) M cs ss) : AW Y R Q pc (a0 :: a1 :: a2 :: a3 :: a4 :: a5 :: a6 :: a7 :: a8 :: some (.long v) :: t) (st) M cs ss :=
  fun x p e s m args below meth c H locs la hC hR hL hq => lv_lload hC.1 hC.2.1 hd (hL.get (i := 9) (v := .long v) rfl) (kk x p e s m args below meth c H locs la hC hR hL hq)
theorem aw_aload9 (pc : Nat) {a0 a1 a2 a3 a4 a5 a6 a7 a8 : Option Value} {t : List (Option Value)} {v : Nat} (hd : decode Y.2.1 pc = .ok (.aload 9, 2)) (kk : AW Y R Q (pc + 2) (a0 :: a1 :: a2 :: a3 :: a4 :: a5 :: a6 :: a7 :: a8 :: some (.ref v) :: t) (.ref v :: st) M cs ss) : AW Y R Q pc (a0 :: a1 :: a2 :: a3 :: a4 :: a5 :: a6 :: a7 :: a8 :: some (.ref v) :: t) (st) M cs ss :=
  fun x p e s m args below meth c H locs la hC hR hL hq => lv_aload hC.1 hC.2.1 hd (hL.get (i := 9) (v := .ref v) rfl) (kk x p e s m args below meth c H locs la hC hR hL hq)
theorem aw_aloadN9 (pc : Nat) {a0 a1 a2 a3 a4 a5 a6 a7 a8 : Option Value} {t : List (Option Value)} (hd : decode Y.2.1 pc = .ok (.aload 9, 2)) (kk : AW Y R Q (pc + 2) (a0 :: a1 :: a2 :: a3 :: a4 :: a5 :: a6 :: a7 :: a8 :: some .null :: t) (.null :: st) M cs ss) : AW Y R Q pc (a0 :: a1 :: a2 :: a3 :: a4 :: a5 :: a6 :: a7 :: a8 :: some .null :: t) (st) M cs ss :=
  fun x p e s m args below meth c H locs la hC hR hL hq => lv_aloadN hC.1 hC.2.1 hd (hL.get (i := 9) (v := .null) rfl) (kk x p e s m args below meth c H locs la hC hR hL hq)
theorem aw_iload10 (pc : Nat) {a0 a1 a2 a3 a4 a5 a6 a7 a8 a9 : Option Value} {t : List (Option Value)} {v : Int32} (hd : decode Y.2.1 pc = .ok (.iload 10, 2)) (kk : AW Y R Q (pc + 2) (a0 :: a1 :: a2 :: a3 :: a4 :: a5 :: a6 :: a7 :: a8 :: a9 :: some (.int v) :: t) (.int v :: st) M cs ss) : AW Y R Q pc (a0 :: a1 :: a2 :: a3 :: a4 :: a5 :: a6 :: a7 :: a8 :: a9 :: some (.int v) :: t) (st) M cs ss :=
  fun x p e s m args below meth c H locs la hC hR hL hq => lv_iload hC.1 hC.2.1 hd (hL.get (i := 10) (v := .int v) rfl) (kk x p e s m args below meth c H locs la hC hR hL hq)
theorem aw_lload10 (pc : Nat) {a0 a1 a2 a3 a4 a5 a6 a7 a8 a9 : Option Value} {t : List (Option Value)} {v : Int64} (hd : decode Y.2.1 pc = .ok (.lload 10, 2)) (kk : AW Y R Q (pc + 2) (a0 :: a1 :: a2 :: a3 :: a4 :: a5 :: a6 :: a7 :: a8 :: a9 :: some (.long v) :: t) (.long v :: st) M cs ss) : AW Y R Q pc (a0 :: a1 :: a2 :: a3 :: a4 :: a5 :: a6 :: a7 :: a8 :: a9 :: some (.long v) :: t) (st) M cs ss :=
  fun x p e s m args below meth c H locs la hC hR hL hq => lv_lload hC.1 hC.2.1 hd (hL.get (i := 10) (v := .long v) rfl) (kk x p e s m args below meth c H locs la hC hR hL hq)
theorem aw_aload10 (pc : Nat) {a0 a1 a2 a3 a4 a5 a6 a7 a8 a9 : Option Value} {t : List (Option Value)} {v : Nat} (hd : decode Y.2.1 pc = .ok (.aload 10, 2)) (kk : AW Y R Q (pc + 2) (a0 :: a1 :: a2 :: a3 :: a4 :: a5 :: a6 :: a7 :: a8 :: a9 :: some (.ref v) :: t) (.ref v :: st) M cs ss) : AW Y R Q pc (a0 :: a1 :: a2 :: a3 :: a4 :: a5 :: a6 :: a7 :: a8 :: a9 :: some (.ref v) :: t) (st) M cs ss :=
  fun x p e s m args below meth c H locs la hC hR hL hq => lv_aload hC.1 hC.2.1 hd (hL.get (i := 10) (v := .ref v) rfl) (kk x p e s m args below meth c H locs la hC hR hL hq)
theorem aw_aloadN10 (pc : Nat) {a0 a1 a2 a3 a4 a5 a6 a7 a8 a9 : Option Value} {t : List (Option Value)} (hd : decode Y.2.1 pc = .ok (.aload 10, 2)) (kk : AW Y R Q (pc + 2) (a0 :: a1 :: a2 :: a3 :: a4 :: a5 :: a6 :: a7 :: a8 :: a9 :: some .null :: t) (.null :: st) M cs ss) : AW Y R Q pc (a0 :: a1 :: a2 :: a3 :: a4 :: a5 :: a6 :: a7 :: a8 :: a9 :: some .null :: t) (st) M cs ss :=
  fun x p e s m args below meth c H locs la hC hR hL hq => lv_aloadN hC.1 hC.2.1 hd (hL.get (i := 10) (v := .null) rfl) (kk x p e s m args below meth c H locs la hC hR hL hq)
theorem aw_iload11 (pc : Nat) {a0 a1 a2 a3 a4 a5 a6 a7 a8 a9 a10 : Option Value} {t : List (Option Value)} {v : Int32} (hd : decode Y.2.1 pc = .ok (.iload 11, 2)) (kk : AW Y R Q (pc + 2) (a0 :: a1 :: a2 :: a3 :: a4 :: a5 :: a6 :: a7 :: a8 :: a9 :: a10 :: some (.int v) :: t) (.int v :: st) M cs ss) : AW Y R Q pc (a0 :: a1 :: a2 :: a3 :: a4 :: a5 :: a6 :: a7 :: a8 :: a9 :: a10 :: some (.int v) :: t) (st) M cs ss :=
  fun x p e s m args below meth c H locs la hC hR hL hq => lv_iload hC.1 hC.2.1 hd (hL.get (i := 11) (v := .int v) rfl) (kk x p e s m args below meth c H locs la hC hR hL hq)
theorem aw_lload11 (pc : Nat) {a0 a1 a2 a3 a4 a5 a6 a7 a8 a9 a10 : Option Value} {t : List (Option Value)} {v : Int64} (hd : decode Y.2.1 pc = .ok (.lload 11, 2)) (kk : AW Y R Q (pc + 2) (a0 :: a1 :: a2 :: a3 :: a4 :: a5 :: a6 :: a7 :: a8 :: a9 :: a10 :: some (.long v) :: t) (.long v :: st) M cs ss) : AW Y R Q pc (a0 :: a1 :: a2 :: a3 :: a4 :: a5 :: a6 :: a7 :: a8 :: a9 :: a10 :: some (.long v) :: t) (st) M cs ss :=
  fun x p e s m args below meth c H locs la hC hR hL hq => lv_lload hC.1 hC.2.1 hd (hL.get (i := 11) (v := .long v) rfl) (kk x p e s m args below meth c H locs la hC hR hL hq)
theorem aw_aload11 (pc : Nat) {a0 a1 a2 a3 a4 a5 a6 a7 a8 a9 a10 : Option Value} {t : List (Option Value)} {v : Nat} (hd : decode Y.2.1 pc = .ok (.aload 11, 2)) (kk : AW Y R Q (pc + 2) (a0 :: a1 :: a2 :: a3 :: a4 :: a5 :: a6 :: a7 :: a8 :: a9 :: a10 :: some (.ref v) :: t) (.ref v :: st) M cs ss) : AW Y R Q pc (a0 :: a1 :: a2 :: a3 :: a4 :: a5 :: a6 :: a7 :: a8 :: a9 :: a10 :: some (.ref v) :: t) (st) M cs ss :=
  fun x p e s m args below meth c H locs la hC hR hL hq => lv_aload hC.1 hC.2.1 hd (hL.get (i := 11) (v := .ref v) rfl) (kk x p e s m args below meth c H locs la hC hR hL hq)
theorem aw_aloadN11 (pc : Nat) {a0 a1 a2 a3 a4 a5 a6 a7 a8 a9 a10 : Option Value} {t : List (Option Value)} (hd : decode Y.2.1 pc = .ok (.aload 11, 2)) (kk : AW Y R Q (pc + 2) (a0 :: a1 :: a2 :: a3 :: a4 :: a5 :: a6 :: a7 :: a8 :: a9 :: a10 :: some .null :: t) (.null :: st) M cs ss) : AW Y R Q pc (a0 :: a1 :: a2 :: a3 :: a4 :: a5 :: a6 :: a7 :: a8 :: a9 :: a10 :: some .null :: t) (st) M cs ss :=
  fun x p e s m args below meth c H locs la hC hR hL hq => lv_aloadN hC.1 hC.2.1 hd (hL.get (i := 11) (v := .null) rfl) (kk x p e s m args below meth c H locs la hC hR hL hq)
theorem aw_iload12 (pc : Nat) {a0 a1 a2 a3 a4 a5 a6 a7 a8 a9 a10 a11 : Option Value} {t : List (Option Value)} {v : Int32} (hd : decode Y.2.1 pc = .ok (.iload 12, 2)) (kk : AW Y R Q (pc + 2) (a0 :: a1 :: a2 :: a3 :: a4 :: a5 :: a6 :: a7 :: a8 :: a9 :: a10 :: a11 :: some (.int v) :: t) (.int v :: st) M cs ss) : AW Y R Q pc (a0 :: a1 :: a2 :: a3 :: a4 :: a5 :: a6 :: a7 :: a8 :: a9 :: a10 :: a11 :: some (.int v) :: t) (st) M cs ss :=
  fun x p e s m args below meth c H locs la hC hR hL hq => lv_iload hC.1 hC.2.1 hd (hL.get (i := 12) (v := .int v) rfl) (kk x p e s m args below meth c H locs la hC hR hL hq)
theorem aw_lload12 (pc : Nat) {a0 a1 a2 a3 a4 a5 a6 a7 a8 a9 a10 a11 : Option Value} {t : List (Option Value)} {v : Int64} (hd : decode Y.2.1 pc = .ok (.lload 12, 2)) (kk : AW Y R Q (pc + 2) (a0 :: a1 :: a2 :: a3 :: a4 :: a5 :: a6 :: a7 :: a8 :: a9 :: a10 :: a11 :: some (.long v) :: t) (.long v :: st) M cs ss) : AW Y R Q pc (a0 :: a1 :: a2 :: a3 :: a4 :: a5 :: a6 :: a7 :: a8 :: a9 :: a10 :: a11 :: some (.long v) :: t) (st) M cs ss :=
  fun x p e s m args below meth c H locs la hC hR hL hq => lv_lload hC.1 hC.2.1 hd (hL.get (i := 12) (v := .long v) rfl) (kk x p e s m args below meth c H locs la hC hR hL hq)
theorem aw_aload12 (pc : Nat) {a0 a1 a2 a3 a4 a5 a6 a7 a8 a9 a10 a11 : Option Value} {t : List (Option Value)} {v : Nat} (hd : decode Y.2.1 pc = .ok (.aload 12, 2)) (kk : AW Y R Q (pc + 2) (a0 :: a1 :: a2 :: a3 :: a4 :: a5 :: a6 :: a7 :: a8 :: a9 :: a10 :: a11 :: some (.ref v) :: t) (.ref v :: st) M cs ss) : AW Y R Q pc (a0 :: a1 :: a2 :: a3 :: a4 :: a5 :: a6 :: a7 :: a8 :: a9 :: a10 :: a11 :: some (.ref v) :: t) (st) M cs ss :=
  fun x p e s m args below meth c H locs la hC hR hL hq => lv_aload hC.1 hC.2.1 hd (hL.get (i := 12) (v := .ref v) rfl) (kk x p e s m args below meth c H locs la hC hR hL hq)
theorem aw_aloadN12 (pc : Nat) {a0 a1 a2 a3 a4 a5 a6 a7 a8 a9 a10 a11 : Option Value} {t : List (Option Value)} (hd : decode Y.2.1 pc = .ok (.aload 12, 2)) (kk : AW Y R Q (pc + 2) (a0 :: a1 :: a2 :: a3 :: a4 :: a5 :: a6 :: a7 :: a8 :: a9 :: a10 :: a11 :: some .null :: t) (.null :: st) M cs ss) : AW Y R Q pc (a0 :: a1 :: a2 :: a3 :: a4 :: a5 :: a6 :: a7 :: a8 :: a9 :: a10 :: a11 :: some .null :: t) (st) M cs ss :=
  fun x p e s m args below meth c H locs la hC hR hL hq => lv_aloadN hC.1 hC.2.1 hd (hL.get (i := 12) (v := .null) rfl) (kk x p e s m args below meth c H locs la hC hR hL hq)
theorem aw_iload13 (pc : Nat) {a0 a1 a2 a3 a4 a5 a6 a7 a8 a9 a10 a11 a12 : Option Value} {t : List (Option Value)} {v : Int32} (hd : decode Y.2.1 pc = .ok (.iload 13, 2)) (kk : AW Y R Q (pc + 2) (a0 :: a1 :: a2 :: a3 :: a4 :: a5 :: a6 :: a7 :: a8 :: a9 :: a10 :: a11 :: a12 :: some (.int v) :: t) (.int v :: st) M cs ss) : AW Y R Q pc (a0 :: a1 :: a2 :: a3 :: a4 :: a5 :: a6 :: a7 :: a8 :: a9 :: a10 :: a11 :: a12 :: some (.int v) :: t) (st) M cs ss :=
  fun x p e s m args below meth c H locs la hC hR hL hq => lv_iload hC.1 hC.2.1 hd (hL.get (i := 13) (v := .int v) rfl) (kk x p e s m args below meth c H locs la hC hR hL hq)
theorem aw_lload13 (pc : Nat) {a0 a1 a2 a3 a4 a5 a6 a7 a8 a9 a10 a11 a12 : Option Value} {t : List (Option Value)} {v : Int64} (hd : decode Y.2.1 pc = .ok (.lload 13, 2)) (kk : AW Y R Q (pc + 2) (a0 :: a1 :: a2 :: a3 :: a4 :: a5 :: a6 :: a7 :: a8 :: a9 :: a10 :: a11 :: a12 :: some (.long v) :: t) (.long v :: st) M cs ss) : AW Y R Q pc (a0 :: a1 :: a2 :: a3 :: a4 :: a5 :: a6 :: a7 :: a8 :: a9 :: a10 :: a11 :: a12 :: some (.long v) :: t) (st) M cs ss :=
  fun x p e s m args below meth c H locs la hC hR hL hq => lv_lload hC.1 hC.2.1 hd (hL.get (i := 13) (v := .long v) rfl) (kk x p e s m args below meth c H locs la hC hR hL hq)
theorem aw_aload13 (pc : Nat) {a0 a1 a2 a3 a4 a5 a6 a7 a8 a9 a10 a11 a12 : Option Value} {t : List (Option Value)} {v : Nat} (hd : decode Y.2.1 pc = .ok (.aload 13, 2)) (kk : AW Y R Q (pc + 2) (a0 :: a1 :: a2 :: a3 :: a4 :: a5 :: a6 :: a7 :: a8 :: a9 :: a10 :: a11 :: a12 :: some (.ref v) :: t) (.ref v :: st) M cs ss) : AW Y R Q pc (a0 :: a1 :: a2 :: a3 :: a4 :: a5 :: a6 :: a7 :: a8 :: a9 :: a10 :: a11 :: a12 :: some (.ref v) :: t) (st) M cs ss :=
  fun x p e s m args below meth c H locs la hC hR hL hq => lv_aload hC.1 hC.2.1 hd (hL.get (i := 13) (v := .ref v) rfl) (kk x p e s m args below meth c H locs la hC hR hL hq)
theorem aw_aloadN13 (pc : Nat) {a0 a1 a2 a3 a4 a5 a6 a7 a8 a9 a10 a11 a12 : Option Value} {t : List (Option Value)} (hd : decode Y.2.1 pc = .ok (.aload 13, 2)) (kk : AW Y R Q (pc + 2) (a0 :: a1 :: a2 :: a3 :: a4 :: a5 :: a6 :: a7 :: a8 :: a9 :: a10 :: a11 :: a12 :: some .null :: t) (.null :: st) M cs ss) : AW Y R Q pc (a0 :: a1 :: a2 :: a3 :: a4 :: a5 :: a6 :: a7 :: a8 :: a9 :: a10 :: a11 :: a12 :: some .null :: t) (st) M cs ss :=
  fun x p e s m args below meth c H locs la hC hR hL hq => lv_aloadN hC.1 hC.2.1 hd (hL.get (i := 13) (v := .null) rfl) (kk x p e s m args below meth c H locs la hC hR hL hq)
theorem aw_iload14 (pc : Nat) {a0 a1 a2 a3 a4 a5 a6 a7 a8 a9 a10 a11 a12 a13 : Option Value} {t : List (Option Value)} {v : Int32} (hd : decode Y.2.1 pc = .ok (.iload 14, 2)) (kk : AW Y R Q (pc + 2) (a0 :: a1 :: a2 :: a3 :: a4 :: a5 :: a6 :: a7 :: a8 :: a9 :: a10 :: a11 :: a12 :: a13 :: some (.int v) :: t) (.int v :: st) M cs ss) : AW Y R Q pc (a0 :: a1 :: a2 :: a3 :: a4 :: a5 :: a6 :: a7 :: a8 :: a9 :: a10 :: a11 :: a12 :: a13 :: some (.int v) :: t) (st) M cs ss :=
  fun x p e s m args below meth c H locs la hC hR hL hq => lv_iload hC.1 hC.2.1 hd (hL.get (i := 14) (v := .int v) rfl) (kk x p e s m args below meth c H locs la hC hR hL hq)
theorem aw_lload14 (pc : Nat) {a0 a1 a2 a3 a4 a5 a6 a7 a8 a9 a10 a11 a12 a13 : Option Value} {t : List (Option Value)} {v : Int64} (hd : decode Y.2.1 pc = .ok (.lload 14, 2)) (kk : AW Y R Q (pc + 2) (a0 :: a1 :: a2 :: a3 :: a4 :: a5 :: a6 :: a7 :: a8 :: a9 :: a10 :: a11 :: a12 :: a13 :: some (.long v) :: t) (.long v :: st) M cs ss) : AW Y R Q pc (a0 :: a1 :: a2 :: a3 :: a4 :: a5 :: a6 :: a7 :: a8 :: a9 :: a10 :: a11 :: a12 :: a13 :: some (.long v) :: t) (st) M cs ss :=
  fun x p e s m args below meth c H locs la hC hR hL hq => lv_lload hC.1 hC.2.1 hd (hL.get (i := 14) (v := .long v) rfl) (kk x p e s m args below meth c H locs la hC hR hL hq)
theorem aw_aload14 (pc : Nat) {a0 a1 a2 a3 a4 a5 a6 a7 a8 a9 a10 a11 a12 a13 : Option Value} {t : List (Option Value)} {v : Nat} (hd : decode Y.2.1 pc = .ok (.aload 14, 2)) (kk : AW Y R Q (pc + 2) (a0 :: a1 :: a2 :: a3 :: a4 :: a5 :: a6 :: a7 :: a8 :: a9 :: a10 :: a11 :: a12 :: a13 :: some (.ref v) :: t) (.ref v :: st) M cs ss) : AW Y R Q pc (a0 :: a1 :: a2 :: a3 :: a4 :: a5 :: a6 :: a7 :: a8 :: a9 :: a10 :: a11 :: a12 :: a13 :: some (.ref v) :: t) (st) M cs ss :=
  fun x p e s m args below meth c H locs la hC hR hL hq => lv_aload hC.1 hC.2.1 hd (hL.get (i := 14) (v := .ref v) rfl) (kk x p e s m args below meth c H locs la hC hR hL hq)
theorem aw_aloadN14 (pc : Nat) {a0 a1 a2 a3 a4 a5 a6 a7 a8 a9 a10 a11 a12 a13 : Option Value} {t : List (Option Value)} (hd : decode Y.2.1 pc = .ok (.aload 14, 2)) (kk : AW Y R Q (pc + 2) (a0 :: a1 :: a2 :: a3 :: a4 :: a5 :: a6 :: a7 :: a8 :: a9 :: a10 :: a11 :: a12 :: a13 :: some .null :: t) (.null :: st) M cs ss) : AW Y R Q pc (a0 :: a1 :: a2 :: a3 :: a4 :: a5 :: a6 :: a7 :: a8 :: a9 :: a10 :: a11 :: a12 :: a13 :: some .null :: t) (st) M cs ss :=
  fun x p e s m args below meth c H locs la hC hR hL hq => lv_aloadN hC.1 hC.2.1 hd (hL.get (i := 14) (v := .null) rfl) (kk x p e s m args below meth c H locs la hC hR hL hq)
theorem aw_iload15 (pc : Nat) {a0 a1 a2 a3 a4 a5 a6 a7 a8 a9 a10 a11 a12 a13 a14 : Option Value} {t : List (Option Value)} {v : Int32} (hd : decode Y.2.1 pc = .ok (.iload 15, 2)) (kk : AW Y R Q (pc + 2) (a0 :: a1 :: a2 :: a3 :: a4 :: a5 :: a6 :: a7 :: a8 :: a9 :: a10 :: a11 :: a12 :: a13 :: a14 :: some (.int v) :: t) (.int v :: st) M cs ss) : AW Y R Q pc (a0 :: a1 :: a2 :: a3 :: a4 :: a5 :: a6 :: a7 :: a8 :: a9 :: a10 :: a11 :: a12 :: a13 :: a14 :: some (.int v) :: t) (st) M cs ss :=
  fun x p e s m args below meth c H locs la hC hR hL hq => lv_iload hC.1 hC.2.1 hd (hL.get (i := 15) (v := .int v) rfl) (kk x p e s m args below meth c H locs la hC hR hL hq)
theorem aw_lload15 (pc : Nat) {a0 a1 a2 a3 a4 a5 a6 a7 a8 a9 a10 a11 a12 a13 a14 : Option Value} {t : List (Option Value)} {v : Int64} (hd : decode Y.2.1 pc = .ok (.lload 15, 2)) (kk : AW Y R Q (pc + 2) (a0 :: a1 :: a2 :: a3 :: a4 :: a5 :: a6 :: a7 :: a8 :: a9 :: a10 :: a11 :: a12 :: a13 :: a14 :: some (.long v) :: t) (.long v :: st) M cs ss) : AW Y R Q pc (a0 :: a1 :: a2 :: a3 :: a4 :: a5 :: a6 :: a7 :: a8 :: a9 :: a10 :: a11 :: a12 :: a13 :: a14 :: some (.long v) :: t) (st) M cs ss :=
  fun x p e s m args below meth c H locs la hC hR hL hq => lv_lload hC.1 hC.2.1 hd (hL.get (i := 15) (v := .long v) rfl) (kk x p e s m args below meth c H locs la hC hR hL hq)
theorem aw_aload15 (pc : Nat) {a0 a1 a2 a3 a4 a5 a6 a7 a8 a9 a10 a11 a12 a13 a14 : Option Value} {t : List (Option Value)} {v : Nat} (hd : decode Y.2.1 pc = .ok (.aload 15, 2)) (kk : AW Y R Q (pc + 2) (a0 :: a1 :: a2 :: a3 :: a4 :: a5 :: a6 :: a7 :: a8 :: a9 :: a10 :: a11 :: a12 :: a13 :: a14 :: some (.ref v) :: t) (.ref v :: st) M cs ss) : AW Y R Q pc (a0 :: a1 :: a2 :: a3 :: a4 :: a5 :: a6 :: a7 :: a8 :: a9 :: a10 :: a11 :: a12 :: a13 :: a14 :: some (.ref v) :: t) (st) M cs ss :=
  fun x p e s m args below meth c H locs la hC hR hL hq => lv_aload hC.1 hC.2.1 hd (hL.get (i := 15) (v := .ref v) rfl) (kk x p e s m args below meth c H locs la hC hR hL hq)
theorem aw_aloadN15 (pc : Nat) {a0 a1 a2 a3 a4 a5 a6 a7 a8 a9 a10 a11 a12 a13 a14 : Option Value} {t : List (Option Value)} (hd : decode Y.2.1 pc = .ok (.aload 15, 2)) (kk : AW Y R Q (pc + 2) (a0 :: a1 :: a2 :: a3 :: a4 :: a5 :: a6 :: a7 :: a8 :: a9 :: a10 :: a11 :: a12 :: a13 :: a14 :: some .null :: t) (.null :: st) M cs ss) : AW Y R Q pc (a0 :: a1 :: a2 :: a3 :: a4 :: a5 :: a6 :: a7 :: a8 :: a9 :: a10 :: a11 :: a12 :: a13 :: a14 :: some .null :: t) (st) M cs ss :=
  fun x p e s m args below meth c H locs la hC hR hL hq => lv_aloadN hC.1 hC.2.1 hd (hL.get (i := 15) (v := .null) rfl) (kk x p e s m args below meth c H locs la hC hR hL hq)
theorem aw_iload16 (pc : Nat) {a0 a1 a2 a3 a4 a5 a6 a7 a8 a9 a10 a11 a12 a13 a14 a15 : Option Value} {t : List (Option Value)} {v : Int32} (hd : decode Y.2.1 pc = .ok (.iload 16, 2)) (kk : AW Y R Q (pc + 2) (a0 :: a1 :: a2 :: a3 :: a4 :: a5 :: a6 :: a7 :: a8 :: a9 :: a10 :: a11 :: a12 :: a13 :: a14 :: a15 :: some (.int v) :: t) (.int v :: st) M cs ss) : AW Y R Q pc (a0 :: a1 :: a2 :: a3 :: a4 :: a5 :: a6 :: a7 :: a8 :: a9 :: a10 :: a11 :: a12 :: a13 :: a14 :: a15 :: some (.int v) :: t) (st) M cs ss :=
  fun x p e s m args below meth c H locs la hC hR hL hq => lv_iload hC.1 hC.2.1 hd (hL.get (i := 16) (v := .int v) rfl) (kk x p e s m args below meth c H locs la hC hR hL hq)
theorem aw_lload16 (pc : Nat) {a0 a1 a2 a3 a4 a5 a6 a7 a8 a9 a10 a11 a12 a13 a14 a15 : Option Value} {t : List (Option Value)} {v : Int64} (hd : decode Y.2.1 pc = .ok (.lload 16, 2)) (kk : AW Y R Q (pc + 2) (a0 :: a1 :: a2 :: a3 :: a4 :: a5 :: a6 :: a7 :: a8 :: a9 :: a10 :: a11 :: a12 :: a13 :: a14 :: a15 :: some (.long v) :: t) (.long v :: st) M cs ss) : AW Y R Q pc (a0 :: a1 :: a2 :: a3 :: a4 :: a5 :: a6 :: a7 :: a8 :: a9 :: a10 :: a11 :: a12 :: a13 :: a14 :: a15 :: some (.long v) :: t) (st) M cs ss :=
  fun x p e s m args below meth c H locs la hC hR hL hq => lv_lload hC.1 hC.2.1 hd (hL.get (i := 16) (v := .long v) rfl) (kk x p e s m args below meth c H locs la hC hR hL hq)
theorem aw_aload16 (pc : Nat) {a0 a1 a2 a3 a4 a5 a6 a7 a8 a9 a10 a11 a12 a13 a14 a15 : Option Value} {t : List (Option Value)} {v : Nat} (hd : decode Y.2.1 pc = .ok (.aload 16, 2)) (kk : AW Y R Q (pc + 2) (a0 :: a1 :: a2 :: a3 :: a4 :: a5 :: a6 :: a7 :: a8 :: a9 :: a10 :: a11 :: a12 :: a13 :: a14 :: a15 :: some (.ref v) :: t) (.ref v :: st) M cs ss) : AW Y R Q pc (a0 :: a1 :: a2 :: a3 :: a4 :: a5 :: a6 :: a7 :: a8 :: a9 :: a10 :: a11 :: a12 :: a13 :: a14 :: a15 :: some (.ref v) :: t) (st) M cs ss :=
  fun x p e s m args below meth c H locs la hC hR hL hq => lv_aload hC.1 hC.2.1 hd (hL.get (i := 16) (v := .ref v) rfl) (kk x p e s m args below meth c H locs la hC hR hL hq)
theorem aw_aloadN16 (pc : Nat) {a0 a1 a2 a3 a4 a5 a6 a7 a8 a9 a10 a11 a12 a13 a14 a15 : Option Value} {t : List (Option Value)} (hd : decode Y.2.1 pc = .ok (.aload 16, 2)) (kk : AW Y R Q (pc + 2) (a0 :: a1 :: a2 :: a3 :: a4 :: a5 :: a6 :: a7 :: a8 :: a9 :: a10 :: a11 :: a12 :: a13 :: a14 :: a15 :: some .null :: t) (.null :: st) M cs ss) : AW Y R Q pc (a0 :: a1 :: a2 :: a3 :: a4 :: a5 :: a6 :: a7 :: a8 :: a9 :: a10 :: a11 :: a12 :: a13 :: a14 :: a15 :: some .null :: t) (st) M cs ss :=
  fun x p e s m args below meth c H locs la hC hR hL hq => lv_aloadN hC.1 hC.2.1 hd (hL.get (i := 16) (v := .null) rfl) (kk x p e s m args below meth c H locs la hC hR hL hq)
def prevB (o : Option Value) : Bool := match o with
  | none => true
  | some w => w.category == 1
theorem prevB_ok {o : Option Value} {w : Value} (h : prevB o = true) (hw : o = some w) : w.category = 1 := by
  subst hw
  simpa [prevB] using h
theorem aw_istore0 (pc : Nat) {a0 : Option Value} {t : List (Option Value)} {v : Int32} (hd : decode Y.2.1 pc = .ok (.istore_n 0, 1)) (kk : AW Y R Q (pc + 1) (some (.int v) :: t) st M cs ss) : AW Y R Q pc (a0 :: t) (.int v :: st) M cs ss := by
  intro x p e s m args below meth c H locs la hC hR hL hq
  have hn : 0 < Y.2.2.1 := by rw [← hL.1]; simp only [List.length_cons]; omega
  refine lv_istore_n (lv := prs x (a0 :: t)) hC.1 hC.2.1 hd rfl hL.has hn rfl (fun la2 hl2 => ?_)
  exact kk x p e s m args below meth c H locs la2 hC hR (LV0.set1 (v := .int v) hL.1 hn (fun j w h _ => by omega) hl2) hq
theorem aw_astore0 (pc : Nat) {a0 : Option Value} {t : List (Option Value)} {v : Nat} (hd : decode Y.2.1 pc = .ok (.astore_n 0, 1)) (kk : AW Y R Q (pc + 1) (some (.ref v) :: t) st M cs ss) : AW Y R Q pc (a0 :: t) (.ref v :: st) M cs ss := by
  intro x p e s m args below meth c H locs la hC hR hL hq
  have hn : 0 < Y.2.2.1 := by rw [← hL.1]; simp only [List.length_cons]; omega
  refine lv_astore_n (lv := prs x (a0 :: t)) hC.1 hC.2.1 hd rfl hL.has hn rfl (fun la2 hl2 => ?_)
  exact kk x p e s m args below meth c H locs la2 hC hR (LV0.set1 (v := .ref v) hL.1 hn (fun j w h _ => by omega) hl2) hq
theorem aw_astoreN0 (pc : Nat) {a0 : Option Value} {t : List (Option Value)} (hd : decode Y.2.1 pc = .ok (.astore_n 0, 1)) (kk : AW Y R Q (pc + 1) (some .null :: t) st M cs ss) : AW Y R Q pc (a0 :: t) (.null :: st) M cs ss := by
  intro x p e s m args below meth c H locs la hC hR hL hq
  have hn : 0 < Y.2.2.1 := by rw [← hL.1]; simp only [List.length_cons]; omega
  refine lv_astore_nN (lv := prs x (a0 :: t)) hC.1 hC.2.1 hd rfl hL.has hn rfl (fun la2 hl2 => ?_)
  exact kk x p e s m args below meth c H locs la2 hC hR (LV0.set1 (v := .null) hL.1 hn (fun j w h _ => by omega) hl2) hq
theorem aw_lstore0 (pc : Nat) {a0 a1 : Option Value} {t : List (Option Value)} {v : Int64} (hd : decode Y.2.1 pc = .ok (.lstore_n 0, 1)) (kk : AW Y R Q (pc + 1) (some (.long v) :: none :: t) st M cs ss) : AW Y R Q pc (a0 :: a1 :: t) (.long v :: st) M cs ss := by
  intro x p e s m args below meth c H locs la hC hR hL hq
  have hn : 0 + 1 < Y.2.2.1 := by rw [← hL.1]; simp only [List.length_cons]; omega
  refine lv_lstore_n (lv := prs x (a0 :: a1 :: t)) hC.1 hC.2.1 hd rfl hL.has hn rfl (fun la2 hl2 => ?_)
  exact kk x p e s m args below meth c H locs la2 hC hR (LV0.set2 (v := .long v) hL.1 hn (fun j w h _ => by omega) hl2) hq
theorem aw_iinc0 (pc : Nat) {t : List (Option Value)} {n : Int} {u : Int32} (v : Int32) (hd : decode Y.2.1 pc = .ok (.iinc 0 n, 3)) (hv : u + Int32.ofInt n = v) (kk : AW Y R Q (pc + 3) (some (.int v) :: t) st M cs ss) : AW Y R Q pc (some (.int u) :: t) st M cs ss := by
  intro x p e s m args below meth c H locs la hC hR hL hq
  have hn : 0 < Y.2.2.1 := by rw [← hL.1]; simp only [List.length_cons]; omega
  obtain ⟨z, hz⟩ := List.getElem?_of_mem (prs_mem (x := x) (ls := some (.int u) :: t) (i := 0) (v := .int u) rfl)
  refine lv_iinc (lv := prs x (some (.int u) :: t)) (k := z) (x := u) (v := v) hC.1 hC.2.1 hd hL.has hz hv hn rfl (fun la2 hl2 => ?_)
  exact kk x p e s m args below meth c H locs la2 hC hR (LV0.set1 (v := .int v) hL.1 hn (fun j w h _ => by omega) hl2) hq
theorem aw_drop0 {pc : Nat} {a0 : Option Value} {t : List (Option Value)} (kk : AW Y R Q pc (none :: t) st M cs ss) : AW Y R Q pc (a0 :: t) st M cs ss := by
  intro x p e s m args below meth c H locs la hC hR hL hq
  refine kk x p e s m args below meth c H locs la hC hR ⟨by rw [← hL.1]; rfl, hL.2.1, hL.2.2.1, fun i v hi => hL.2.2.2 i v ?_⟩ hq
  cases i with
  | zero => simp at hi
  | succ i => exact hi
theorem aw_istore1 (pc : Nat) {a0 a1 : Option Value} {t : List (Option Value)} {v : Int32} (hd : decode Y.2.1 pc = .ok (.istore_n 1, 1)) (hp : prevB a0 = true) (kk : AW Y R Q (pc + 1) (a0 :: some (.int v) :: t) st M cs ss) : AW Y R Q pc (a0 :: a1 :: t) (.int v :: st) M cs ss := by
  intro x p e s m args below meth c H locs la hC hR hL hq
  have hn : 1 < Y.2.2.1 := by rw [← hL.1]; simp only [List.length_cons]; omega
  refine lv_istore_n (lv := prs x (a0 :: a1 :: t)) hC.1 hC.2.1 hd rfl hL.has hn rfl (fun la2 hl2 => ?_)
  exact kk x p e s m args below meth c H locs la2 hC hR (LV0.set1 (v := .int v) hL.1 hn (fun j w h hj => by
      have hj1 : j = 0 := by omega
      subst hj1
      exact prevB_ok hp (Option.some.inj hj)) hl2) hq
theorem aw_astore1 (pc : Nat) {a0 a1 : Option Value} {t : List (Option Value)} {v : Nat} (hd : decode Y.2.1 pc = .ok (.astore_n 1, 1)) (hp : prevB a0 = true) (kk : AW Y R Q (pc + 1) (a0 :: some (.ref v) :: t) st M cs ss) : AW Y R Q pc (a0 :: a1 :: t) (.ref v :: st) M cs ss := by
  intro x p e s m args below meth c H locs la hC hR hL hq
  have hn : 1 < Y.2.2.1 := by rw [← hL.1]; simp only [List.length_cons]; omega
  refine lv_astore_n (lv := prs x (a0 :: a1 :: t)) hC.1 hC.2.1 hd rfl hL.has hn rfl (fun la2 hl2 => ?_)
  exact kk x p e s m args below meth c H locs la2 hC hR (LV0.set1 (v := .ref v) hL.1 hn (fun j w h hj => by
      have hj1 : j = 0 := by omega
      subst hj1
      exact prevB_ok hp (Option.some.inj hj)) hl2) hq
theorem aw_astoreN1 (pc : Nat) {a0 a1 : Option Value} {t : List (Option Value)} (hd : decode Y.2.1 pc = .ok (.astore_n 1, 1)) (hp : prevB a0 = true) (kk : AW Y R Q (pc + 1) (a0 :: some .null :: t) st M cs ss) : AW Y R Q pc (a0 :: a1 :: t) (.null :: st) M cs ss := by
  intro x p e s m args below meth c H locs la hC hR hL hq
  have hn : 1 < Y.2.2.1 := by rw [← hL.1]; simp only [List.length_cons]; omega
  refine lv_astore_nN (lv := prs x (a0 :: a1 :: t)) hC.1 hC.2.1 hd rfl hL.has hn rfl (fun la2 hl2 => ?_)
  exact kk x p e s m args below meth c H locs la2 hC hR (LV0.set1 (v := .null) hL.1 hn (fun j w h hj => by
      have hj1 : j = 0 := by omega
      subst hj1
      exact prevB_ok hp (Option.some.inj hj)) hl2) hq
theorem aw_lstore1 (pc : Nat) {a0 a1 a2 : Option Value} {t : List (Option Value)} {v : Int64} (hd : decode Y.2.1 pc = .ok (.lstore_n 1, 1)) (hp : prevB a0 = true) (kk : AW Y R Q (pc + 1) (a0 :: some (.long v) :: none :: t) st M cs ss) : AW Y R Q pc (a0 :: a1 :: a2 :: t) (.long v :: st) M cs ss := by
  intro x p e s m args below meth c H locs la hC hR hL hq
  have hn : 1 + 1 < Y.2.2.1 := by rw [← hL.1]; simp only [List.length_cons]; omega
  refine lv_lstore_n (lv := prs x (a0 :: a1 :: a2 :: t)) hC.1 hC.2.1 hd rfl hL.has hn rfl (fun la2 hl2 => ?_)
  exact kk x p e s m args below meth c H locs la2 hC hR (LV0.set2 (v := .long v) hL.1 hn (fun j w h hj => by
      have hj1 : j = 0 := by omega
      subst hj1
      exact prevB_ok hp (Option.some.inj hj)) hl2) hq
theorem aw_iinc1 (pc : Nat) {a0 : Option Value} {t : List (Option Value)} {n : Int} {u : Int32} (v : Int32) (hd : decode Y.2.1 pc = .ok (.iinc 1 n, 3)) (hv : u + Int32.ofInt n = v) (hp : prevB a0 = true) (kk : AW Y R Q (pc + 3) (a0 :: some (.int v) :: t) st M cs ss) : AW Y R Q pc (a0 :: some (.int u) :: t) st M cs ss := by
  intro x p e s m args below meth c H locs la hC hR hL hq
  have hn : 1 < Y.2.2.1 := by rw [← hL.1]; simp only [List.length_cons]; omega
  obtain ⟨z, hz⟩ := List.getElem?_of_mem (prs_mem (x := x) (ls := a0 :: some (.int u) :: t) (i := 1) (v := .int u) rfl)
  refine lv_iinc (lv := prs x (a0 :: some (.int u) :: t)) (k := z) (x := u) (v := v) hC.1 hC.2.1 hd hL.has hz hv hn rfl (fun la2 hl2 => ?_)
  exact kk x p e s m args below meth c H locs la2 hC hR (LV0.set1 (v := .int v) hL.1 hn (fun j w h hj => by
      have hj1 : j = 0 := by omega
      subst hj1
      exact prevB_ok hp (Option.some.inj hj)) hl2) hq
theorem aw_drop1 {pc : Nat} {a0 a1 : Option Value} {t : List (Option Value)} (kk : AW Y R Q pc (a0 :: none :: t) st M cs ss) : AW Y R Q pc (a0 :: a1 :: t) st M cs ss := by
  intro x p e s m args below meth c H locs la hC hR hL hq
  refine kk x p e s m args below meth c H locs la hC hR ⟨by rw [← hL.1]; rfl, hL.2.1, hL.2.2.1, fun i v hi => hL.2.2.2 i v ?_⟩ hq
  by_cases h : i = 1
  · subst h; simp at hi
  · have e1 : (a0 :: none :: t) = (a0 :: a1 :: t).set 1 none := rfl
    rw [e1, List.getElem?_set_ne (Ne.symm h)] at hi
    exact hi
theorem aw_istore2 (pc : Nat) {a0 a1 a2 : Option Value} {t : List (Option Value)} {v : Int32} (hd : decode Y.2.1 pc = .ok (.istore_n 2, 1)) (hp : prevB a1 = true) (kk : AW Y R Q (pc + 1) (a0 :: a1 :: some (.int v) :: t) st M cs ss) : AW Y R Q pc (a0 :: a1 :: a2 :: t) (.int v :: st) M cs ss := by
  intro x p e s m args below meth c H locs la hC hR hL hq
  have hn : 2 < Y.2.2.1 := by rw [← hL.1]; simp only [List.length_cons]; omega
  refine lv_istore_n (lv := prs x (a0 :: a1 :: a2 :: t)) hC.1 hC.2.1 hd rfl hL.has hn rfl (fun la2 hl2 => ?_)
  exact kk x p e s m args below meth c H locs la2 hC hR (LV0.set1 (v := .int v) hL.1 hn (fun j w h hj => by
      have hj1 : j = 1 := by omega
      subst hj1
      exact prevB_ok hp (Option.some.inj hj)) hl2) hq
theorem aw_astore2 (pc : Nat) {a0 a1 a2 : Option Value} {t : List (Option Value)} {v : Nat} (hd : decode Y.2.1 pc = .ok (.astore_n 2, 1)) (hp : prevB a1 = true) (kk : AW Y R Q (pc + 1) (a0 :: a1 :: some (.ref v) :: t) st M cs ss) : AW Y R Q pc (a0 :: a1 :: a2 :: t) (.ref v :: st) M cs ss := by
  intro x p e s m args below meth c H locs la hC hR hL hq
  have hn : 2 < Y.2.2.1 := by rw [← hL.1]; simp only [List.length_cons]; omega
  refine lv_astore_n (lv := prs x (a0 :: a1 :: a2 :: t)) hC.1 hC.2.1 hd rfl hL.has hn rfl (fun la2 hl2 => ?_)
  exact kk x p e s m args below meth c H locs la2 hC hR (LV0.set1 (v := .ref v) hL.1 hn (fun j w h hj => by
      have hj1 : j = 1 := by omega
      subst hj1
      exact prevB_ok hp (Option.some.inj hj)) hl2) hq
theorem aw_astoreN2 (pc : Nat) {a0 a1 a2 : Option Value} {t : List (Option Value)} (hd : decode Y.2.1 pc = .ok (.astore_n 2, 1)) (hp : prevB a1 = true) (kk : AW Y R Q (pc + 1) (a0 :: a1 :: some .null :: t) st M cs ss) : AW Y R Q pc (a0 :: a1 :: a2 :: t) (.null :: st) M cs ss := by
  intro x p e s m args below meth c H locs la hC hR hL hq
  have hn : 2 < Y.2.2.1 := by rw [← hL.1]; simp only [List.length_cons]; omega
  refine lv_astore_nN (lv := prs x (a0 :: a1 :: a2 :: t)) hC.1 hC.2.1 hd rfl hL.has hn rfl (fun la2 hl2 => ?_)
  exact kk x p e s m args below meth c H locs la2 hC hR (LV0.set1 (v := .null) hL.1 hn (fun j w h hj => by
      have hj1 : j = 1 := by omega
      subst hj1
      exact prevB_ok hp (Option.some.inj hj)) hl2) hq
theorem aw_lstore2 (pc : Nat) {a0 a1 a2 a3 : Option Value} {t : List (Option Value)} {v : Int64} (hd : decode Y.2.1 pc = .ok (.lstore_n 2, 1)) (hp : prevB a1 = true) (kk : AW Y R Q (pc + 1) (a0 :: a1 :: some (.long v) :: none :: t) st M cs ss) : AW Y R Q pc (a0 :: a1 :: a2 :: a3 :: t) (.long v :: st) M cs ss := by
  intro x p e s m args below meth c H locs la hC hR hL hq
  have hn : 2 + 1 < Y.2.2.1 := by rw [← hL.1]; simp only [List.length_cons]; omega
  refine lv_lstore_n (lv := prs x (a0 :: a1 :: a2 :: a3 :: t)) hC.1 hC.2.1 hd rfl hL.has hn rfl (fun la2 hl2 => ?_)
  exact kk x p e s m args below meth c H locs la2 hC hR (LV0.set2 (v := .long v) hL.1 hn (fun j w h hj => by
      have hj1 : j = 1 := by omega
      subst hj1
      exact prevB_ok hp (Option.some.inj hj)) hl2) hq
theorem aw_iinc2 (pc : Nat) {a0 a1 : Option Value} {t : List (Option Value)} {n : Int} {u : Int32} (v : Int32) (hd : decode Y.2.1 pc = .ok (.iinc 2 n, 3)) (hv : u + Int32.ofInt n = v) (hp : prevB a1 = true) (kk : AW Y R Q (pc + 3) (a0 :: a1 :: some (.int v) :: t) st M cs ss) : AW Y R Q pc (a0 :: a1 :: some (.int u) :: t) st M cs ss := by
  intro x p e s m args below meth c H locs la hC hR hL hq
  have hn : 2 < Y.2.2.1 := by rw [← hL.1]; simp only [List.length_cons]; omega
  obtain ⟨z, hz⟩ := List.getElem?_of_mem (prs_mem (x := x) (ls := a0 :: a1 :: some (.int u) :: t) (i := 2) (v := .int u) rfl)
  refine lv_iinc (lv := prs x (a0 :: a1 :: some (.int u) :: t)) (k := z) (x := u) (v := v) hC.1 hC.2.1 hd hL.has hz hv hn rfl (fun la2 hl2 => ?_)
  exact kk x p e s m args below meth c H locs la2 hC hR (LV0.set1 (v := .int v) hL.1 hn (fun j w h hj => by
      have hj1 : j = 1 := by omega
      subst hj1
      exact prevB_ok hp (Option.some.inj hj)) hl2) hq
theorem aw_drop2 {pc : Nat} {a0 a1 a2 : Option Value} {t : List (Option Value)} (kk : AW Y R Q pc (a0 :: a1 :: none :: t) st M cs ss) : AW Y R Q pc (a0 :: a1 :: a2 :: t) st M cs ss := by
  intro x p e s m args below meth c H locs la hC hR hL hq
  refine kk x p e s m args below meth c H locs la hC hR ⟨by rw [← hL.1]; rfl, hL.2.1, hL.2.2.1, fun i v hi => hL.2.2.2 i v ?_⟩ hq
  by_cases h : i = 2
  · subst h; simp at hi
  · have e1 : (a0 :: a1 :: none :: t) = (a0 :: a1 :: a2 :: t).set 2 none := rfl
    rw [e1, List.getElem?_set_ne (Ne.symm h)] at hi
    exact hi
theorem aw_istore3 (pc : Nat) {a0 a1 a2 a3 : Option Value} {t : List (Option Value)} {v : Int32} (hd : decode Y.2.1 pc = .ok (.istore_n 3, 1)) (hp : prevB a2 = true) (kk : AW Y R Q (pc + 1) (a0 :: a1 :: a2 :: some (.int v) :: t) st M cs ss) : AW Y R Q pc (a0 :: a1 :: a2 :: a3 :: t) (.int v :: st) M cs ss := by
  intro x p e s m args below meth c H locs la hC hR hL hq
  have hn : 3 < Y.2.2.1 := by rw [← hL.1]; simp only [List.length_cons]; omega
  refine lv_istore_n (lv := prs x (a0 :: a1 :: a2 :: a3 :: t)) hC.1 hC.2.1 hd rfl hL.has hn rfl (fun la2 hl2 => ?_)
  exact kk x p e s m args below meth c H locs la2 hC hR (LV0.set1 (v := .int v) hL.1 hn (fun j w h hj => by
      have hj1 : j = 2 := by omega
      subst hj1
      exact prevB_ok hp (Option.some.inj hj)) hl2) hq
theorem aw_astore3 (pc : Nat) {a0 a1 a2 a3 : Option Value} {t : List (Option Value)} {v : Nat} (hd : decode Y.2.1 pc = .ok (.astore_n 3, 1)) (hp : prevB a2 = true) (kk : AW Y R Q (pc + 1) (a0 :: a1 :: a2 :: some (.ref v) :: t) st M cs ss) : AW Y R Q pc (a0 :: a1 :: a2 :: a3 :: t) (.ref v :: st) M cs ss := by
  intro x p e s m args below meth c H locs la hC hR hL hq
  have hn : 3 < Y.2.2.1 := by rw [← hL.1]; simp only [List.length_cons]; omega
  refine lv_astore_n (lv := prs x (a0 :: a1 :: a2 :: a3 :: t)) hC.1 hC.2.1 hd rfl hL.has hn rfl (fun la2 hl2 => ?_)
  exact kk x p e s m args below meth c H locs la2 hC hR (LV0.set1 (v := .ref v) hL.1 hn (fun j w h hj => by
      have hj1 : j = 2 := by omega
      subst hj1
      exact prevB_ok hp (Option.some.inj hj)) hl2) hq
theorem aw_astoreN3 (pc : Nat) {a0 a1 a2 a3 : Option Value} {t : List (Option Value)} (hd : decode Y.2.1 pc = .ok (.astore_n 3, 1)) (hp : prevB a2 = true) (kk : AW Y R Q (pc + 1) (a0 :: a1 :: a2 :: some .null :: t) st M cs ss) : AW Y R Q pc (a0 :: a1 :: a2 :: a3 :: t) (.null :: st) M cs ss := by
  intro x p e s m args below meth c H locs la hC hR hL hq
  have hn : 3 < Y.2.2.1 := by rw [← hL.1]; simp only [List.length_cons]; omega
  refine lv_astore_nN (lv := prs x (a0 :: a1 :: a2 :: a3 :: t)) hC.1 hC.2.1 hd rfl hL.has hn rfl (fun la2 hl2 => ?_)
  exact kk x p e s m args below meth c H locs la2 hC hR (LV0.set1 (v := .null) hL.1 hn (fun j w h hj => by
      have hj1 : j = 2 := by omega
      subst hj1
      exact prevB_ok hp (Option.some.inj hj)) hl2) hq
theorem aw_lstore3 (pc : Nat) {a0 a1 a2 a3 a4 : Option Value} {t : List (Option Value)} {v : Int64} (hd : decode Y.2.1 pc = .ok (.lstore_n 3, 1)) (hp : prevB a2 = true) (kk : AW Y R Q (pc + 1) (a0 :: a1 :: a2 :: some (.long v) :: none :: t) st M cs ss) : AW Y R Q pc (a0 :: a1 :: a2 :: a3 :: a4 :: t) (.long v :: st) M cs ss := by
  intro x p e s m args below meth c H locs la hC hR hL hq
  have hn : 3 + 1 < Y.2.2.1 := by rw [← hL.1]; simp only [List.length_cons]; omega
  refine lv_lstore_n (lv := prs x (a0 :: a1 :: a2 :: a3 :: a4 :: t)) hC.1 hC.2.1 hd rfl hL.has hn rfl (fun la2 hl2 => ?_)
  exact kk x p e s m args below meth c H locs la2 hC hR (LV0.set2 (v := .long v) hL.1 hn (fun j w h hj => by
      have hj1 : j = 2 := by omega
      subst hj1
      exact prevB_ok hp (Option.some.inj hj)) hl2) hq
theorem aw_iinc3 (pc : Nat) {a0 a1 a2 : Option Value} {t : List (Option Value)} {n : Int} {u : Int32} (v : Int32) (hd : decode Y.2.1 pc = .ok (.iinc 3 n, 3)) (hv : u + Int32.ofInt n = v) (hp : prevB a2 = true) (kk : AW Y R Q (pc + 3) (a0 :: a1 :: a2 :: some (.int v) :: t) st M cs ss) : AW Y R Q pc (a0 :: a1 :: a2 :: some (.int u) :: t) st M cs ss := by
  intro x p e s m args below meth c H locs la hC hR hL hq
  have hn : 3 < Y.2.2.1 := by rw [← hL.1]; simp only [List.length_cons]; omega
  obtain ⟨z, hz⟩ := List.getElem?_of_mem (prs_mem (x := x) (ls := a0 :: a1 :: a2 :: some (.int u) :: t) (i := 3) (v := .int u) rfl)
  refine lv_iinc (lv := prs x (a0 :: a1 :: a2 :: some (.int u) :: t)) (k := z) (x := u) (v := v) hC.1 hC.2.1 hd hL.has hz hv hn rfl (fun la2 hl2 => ?_)
  exact kk x p e s m args below meth c H locs la2 hC hR (LV0.set1 (v := .int v) hL.1 hn (fun j w h hj => by
      have hj1 : j = 2 := by omega
      subst hj1
      exact prevB_ok hp (Option.some.inj hj)) hl2) hq
theorem aw_drop3 {pc : Nat} {a0 a1 a2 a3 : Option Value} {t : List (Option Value)} (kk : AW Y R Q pc (a0 :: a1 :: a2 :: none :: t) st M cs ss) : AW Y R Q pc (a0 :: a1 :: a2 :: a3 :: t) st M cs ss := by
  intro x p e s m args below meth c H locs la hC hR hL hq
  refine kk x p e s m args below meth c H locs la hC hR ⟨by rw [← hL.1]; rfl, hL.2.1, hL.2.2.1, fun i v hi => hL.2.2.2 i v ?_⟩ hq
  by_cases h : i = 3
  · subst h; simp at hi
  · have e1 : (a0 :: a1 :: a2 :: none :: t) = (a0 :: a1 :: a2 :: a3 :: t).set 3 none := rfl
    rw [e1, List.getElem?_set_ne (Ne.symm h)] at hi
    exact hi
theorem aw_istore4 (pc : Nat) {a0 a1 a2 a3 a4 : Option Value} {t : List (Option Value)} {v : Int32} (hd : decode Y.2.1 pc = .ok (.istore 4, 2)) (hp : prevB a3 = true) (kk : AW Y R Q (pc + 2) (a0 :: a1 :: a2 :: a3 :: some (.int v) :: t) st M cs ss) : AW Y R Q pc (a0 :: a1 :: a2 :: a3 :: a4 :: t) (.int v :: st) M cs ss := by
  intro x p e s m args below meth c H locs la hC hR hL hq
  have hn : 4 < Y.2.2.1 := by rw [← hL.1]; simp only [List.length_cons]; omega
  refine lv_istore (lv := prs x (a0 :: a1 :: a2 :: a3 :: a4 :: t)) hC.1 hC.2.1 hd hL.has hn rfl (fun la2 hl2 => ?_)
  exact kk x p e s m args below meth c H locs la2 hC hR (LV0.set1 (v := .int v) hL.1 hn (fun j w h hj => by
      have hj1 : j = 3 := by omega
      subst hj1
      exact prevB_ok hp (Option.some.inj hj)) hl2) hq
theorem aw_astore4 (pc : Nat) {a0 a1 a2 a3 a4 : Option Value} {t : List (Option Value)} {v : Nat} (hd : decode Y.2.1 pc = .ok (.astore 4, 2)) (hp : prevB a3 = true) (kk : AW Y R Q (pc + 2) (a0 :: a1 :: a2 :: a3 :: some (.ref v) :: t) st M cs ss) : AW Y R Q pc (a0 :: a1 :: a2 :: a3 :: a4 :: t) (.ref v :: st) M cs ss := by
  intro x p e s m args below meth c H locs la hC hR hL hq
  have hn : 4 < Y.2.2.1 := by rw [← hL.1]; simp only [List.length_cons]; omega
  refine lv_astore (lv := prs x (a0 :: a1 :: a2 :: a3 :: a4 :: t)) hC.1 hC.2.1 hd hL.has hn rfl (fun la2 hl2 => ?_)
  exact kk x p e s m args below meth c H locs la2 hC hR (LV0.set1 (v := .ref v) hL.1 hn (fun j w h hj => by
      have hj1 : j = 3 := by omega
      subst hj1
      exact prevB_ok hp (Option.some.inj hj)) hl2) hq
theorem aw_astoreN4 (pc : Nat) {a0 a1 a2 a3 a4 : Option Value} {t : List (Option Value)} (hd : decode Y.2.1 pc = .ok (.astore 4, 2)) (hp : prevB a3 = true) (kk : AW Y R Q (pc + 2) (a0 :: a1 :: a2 :: a3 :: some .null :: t) st M cs ss) : AW Y R Q pc (a0 :: a1 :: a2 :: a3 :: a4 :: t) (.null :: st) M cs ss := by
  intro x p e s m args below meth c H locs la hC hR hL hq
  have hn : 4 < Y.2.2.1 := by rw [← hL.1]; simp only [List.length_cons]; omega
  refine lv_astoreN (lv := prs x (a0 :: a1 :: a2 :: a3 :: a4 :: t)) hC.1 hC.2.1 hd hL.has hn rfl (fun la2 hl2 => ?_)
  exact kk x p e s m args below meth c H locs la2 hC hR (LV0.set1 (v := .null) hL.1 hn (fun j w h hj => by
      have hj1 : j = 3 := by omega
      subst hj1
      exact prevB_ok hp (Option.some.inj hj)) hl2) hq
theorem aw_lstore4 (pc : Nat) {a0 a1 a2 a3 a4 a5 : Option Value} {t : List (Option Value)} {v : Int64} (hd : decode Y.2.1 pc = .ok (.lstore 4, 2)) (hp : prevB a3 = true) (kk : AW Y R Q (pc + 2) (a0 :: a1 :: a2 :: a3 :: some (.long v) :: none :: t) st M cs ss) : AW Y R Q pc (a0 :: a1 :: a2 :: a3 :: a4 :: a5 :: t) (.long v :: st) M cs ss := by
  intro x p e s m args below meth c H locs la hC hR hL hq
  have hn : 4 + 1 < Y.2.2.1 := by rw [← hL.1]; simp only [List.length_cons]; omega
  refine lv_lstore (lv := prs x (a0 :: a1 :: a2 :: a3 :: a4 :: a5 :: t)) hC.1 hC.2.1 hd hL.has hn rfl (fun la2 hl2 => ?_)
  exact kk x p e s m args below meth c H locs la2 hC hR (LV0.set2 (v := .long v) hL.1 hn (fun j w h hj => by
      have hj1 : j = 3 := by omega
      subst hj1
      exact prevB_ok hp (Option.some.inj hj)) hl2) hq
theorem aw_iinc4 (pc : Nat) {a0 a1 a2 a3 : Option Value} {t : List (Option Value)} {n : Int} {u : Int32} (v : Int32) (hd : decode Y.2.1 pc = .ok (.iinc 4 n, 3)) (hv : u + Int32.ofInt n = v) (hp : prevB a3 = true) (kk : AW Y R Q (pc + 3) (a0 :: a1 :: a2 :: a3 :: some (.int v) :: t) st M cs ss) : AW Y R Q pc (a0 :: a1 :: a2 :: a3 :: some (.int u) :: t) st M cs ss := by
  intro x p e s m args below meth c H locs la hC hR hL hq
  have hn : 4 < Y.2.2.1 := by rw [← hL.1]; simp only [List.length_cons]; omega
  obtain ⟨z, hz⟩ := List.getElem?_of_mem (prs_mem (x := x) (ls := a0 :: a1 :: a2 :: a3 :: some (.int u) :: t) (i := 4) (v := .int u) rfl)
  refine lv_iinc (lv := prs x (a0 :: a1 :: a2 :: a3 :: some (.int u) :: t)) (k := z) (x := u) (v := v) hC.1 hC.2.1 hd hL.has hz hv hn rfl (fun la2 hl2 => ?_)
  exact kk x p e s m args below meth c H locs la2 hC hR (LV0.set1 (v := .int v) hL.1 hn (fun j w h hj => by
      have hj1 : j = 3 := by omega
      subst hj1
      exact prevB_ok hp (Option.some.inj hj)) hl2) hq
theorem aw_drop4 {pc : Nat} {a0 a1 a2 a3 a4 : Option Value} {t : List (Option Value)} (kk : AW Y R Q pc (a0 :: a1 :: a2 :: a3 :: none :: t) st M cs ss) : AW Y R Q pc (a0 :: a1 :: a2 :: a3 :: a4 :: t) st M cs ss := by
  intro x p e s m args below meth c H locs la hC hR hL hq
  refine kk x p e s m args below meth c H locs la hC hR ⟨by rw [← hL.1]; rfl, hL.2.1, hL.2.2.1, fun i v hi => hL.2.2.2 i v ?_⟩ hq
  by_cases h : i = 4
  · subst h; simp at hi
  · have e1 : (a0 :: a1 :: a2 :: a3 :: none :: t) = (a0 :: a1 :: a2 :: a3 :: a4 :: t).set 4 none := rfl
    rw [e1, List.getElem?_set_ne (Ne.symm h)] at hi
    exact hi
theorem aw_istore5 (pc : Nat) {a0 a1 a2 a3 a4 a5 : Option Value} {t : List (Option Value)} {v : Int32} (hd : decode Y.2.1 pc = .ok (.istore 5, 2)) (hp : prevB a4 = true) (kk : AW Y R Q (pc + 2) (a0 :: a1 :: a2 :: a3 :: a4 :: some (.int v) :: t) st M cs ss) : AW Y R Q pc (a0 :: a1 :: a2 :: a3 :: a4 :: a5 :: t) (.int v :: st) M cs ss := by
  intro x p e s m args below meth c H locs la hC hR hL hq
  have hn : 5 < Y.2.2.1 := by rw [← hL.1]; simp only [List.length_cons]; omega
  refine lv_istore (lv := prs x (a0 :: a1 :: a2 :: a3 :: a4 :: a5 :: t)) hC.1 hC.2.1 hd hL.has hn rfl (fun la2 hl2 => ?_)
  exact kk x p e s m args below meth c H locs la2 hC hR (LV0.set1 (v := .int v) hL.1 hn (fun j w h hj => by
      have hj1 : j = 4 := by omega
      subst hj1
      exact prevB_ok hp (Option.some.inj hj)) hl2) hq
theorem aw_astore5 (pc : Nat) {a0 a1 a2 a3 a4 a5 : Option Value} {t : List (Option Value)} {v : Nat} (hd : decode Y.2.1 pc = .ok (.astore 5, 2)) (hp : prevB a4 = true) (kk : AW Y R Q (pc + 2) (a0 :: a1 :: a2 :: a3 :: a4 :: some (.ref v) :: t) st M cs ss) : AW Y R Q pc (a0 :: a1 :: a2 :: a3 :: a4 :: a5 :: t) (.ref v :: st) M cs ss := by
  intro x p e s m args below meth c H locs la hC hR hL hq
  have hn : 5 < Y.2.2.1 := by rw [← hL.1]; simp only [List.length_cons]; omega
  refine lv_astore (lv := prs x (a0 :: a1 :: a2 :: a3 :: a4 :: a5 :: t)) hC.1 hC.2.1 hd hL.has hn rfl (fun la2 hl2 => ?_)
  exact kk x p e s m args below meth c H locs la2 hC hR (LV0.set1 (v := .ref v) hL.1 hn (fun j w h hj => by
      have hj1 : j = 4 := by omega
      subst hj1
      exact prevB_ok hp (Option.some.inj hj)) hl2) hq
theorem aw_astoreN5 (pc : Nat) {a0 a1 a2 a3 a4 a5 : Option Value} {t : List (Option Value)} (hd : decode Y.2.1 pc = .ok (.astore 5, 2)) (hp : prevB a4 = true) (kk : AW Y R Q (pc + 2) (a0 :: a1 :: a2 :: a3 :: a4 :: some .null :: t) st M cs ss) : AW Y R Q pc (a0 :: a1 :: a2 :: a3 :: a4 :: a5 :: t) (.null :: st) M cs ss := by
  intro x p e s m args below meth c H locs la hC hR hL hq
  have hn : 5 < Y.2.2.1 := by rw [← hL.1]; simp only [List.length_cons]; omega
  refine lv_astoreN (lv := prs x (a0 :: a1 :: a2 :: a3 :: a4 :: a5 :: t)) hC.1 hC.2.1 hd hL.has hn rfl (fun la2 hl2 => ?_)
  exact kk x p e s m args below meth c H locs la2 hC hR (LV0.set1 (v := .null) hL.1 hn (fun j w h hj => by
      have hj1 : j = 4 := by omega
      subst hj1
      exact prevB_ok hp (Option.some.inj hj)) hl2) hq
theorem aw_lstore5 (pc : Nat) {a0 a1 a2 a3 a4 a5 a6 : Option Value} {t : List (Option Value)} {v : Int64} (hd : decode Y.2.1 pc = .ok (.lstore 5, 2)) (hp : prevB a4 = true) (kk : AW Y R Q (pc + 2) (a0 :: a1 :: a2 :: a3 :: a4 :: some (.long v) :: none :: t) st M cs ss) : AW Y R Q pc (a0 :: a1 :: a2 :: a3 :: a4 :: a5 :: a6 :: t) (.long v :: st) M cs ss := by
  intro x p e s m args below meth c H locs la hC hR hL hq
  have hn : 5 + 1 < Y.2.2.1 := by rw [← hL.1]; simp only [List.length_cons]; omega
  refine lv_lstore (lv := prs x (a0 :: a1 :: a2 :: a3 :: a4 :: a5 :: a6 :: t)) hC.1 hC.2.1 hd hL.has hn rfl (fun la2 hl2 => ?_)
  exact kk x p e s m args below meth c H locs la2 hC hR (LV0.set2 (v := .long v) hL.1 hn (fun j w h hj => by
      have hj1 : j = 4 := by omega
      subst hj1
      exact prevB_ok hp (Option.some.inj hj)) hl2) hq
theorem aw_iinc5 (pc : Nat) {a0 a1 a2 a3 a4 : Option Value} {t : List (Option Value)} {n : Int} {u : Int32} (v : Int32) (hd : decode Y.2.1 pc = .ok (.iinc 5 n, 3)) (hv : u + Int32.ofInt n = v) (hp : prevB a4 = true) (kk : AW Y R Q (pc + 3) (a0 :: a1 :: a2 :: a3 :: a4 :: some (.int v) :: t) st M cs ss) : AW Y R Q pc (a0 :: a1 :: a2 :: a3 :: a4 :: some (.int u) :: t) st M cs ss := by
  intro x p e s m args below meth c H locs la hC hR hL hq
  have hn : 5 < Y.2.2.1 := by rw [← hL.1]; simp only [List.length_cons]; omega
  obtain ⟨z, hz⟩ := List.getElem?_of_mem (prs_mem (x := x) (ls := a0 :: a1 :: a2 :: a3 :: a4 :: some (.int u) :: t) (i := 5) (v := .int u) rfl)
  refine lv_iinc (lv := prs x (a0 :: a1 :: a2 :: a3 :: a4 :: some (.int u) :: t)) (k := z) (x := u) (v := v) hC.1 hC.2.1 hd hL.has hz hv hn rfl (fun la2 hl2 => ?_)
  exact kk x p e s m args below meth c H locs la2 hC hR (LV0.set1 (v := .int v) hL.1 hn (fun j w h hj => by
      have hj1 : j = 4 := by omega
      subst hj1
      exact prevB_ok hp (Option.some.inj hj)) hl2) hq
theorem aw_drop5 {pc : Nat} {a0 a1 a2 a3 a4 a5 : Option Value} {t : List (Option Value)} (kk : AW Y R Q pc (a0 :: a1 :: a2 :: a3 :: a4 :: none :: t) st M cs ss) : AW Y R Q pc (a0 :: a1 :: a2 :: a3 :: a4 :: a5 :: t) st M cs ss := by
  intro x p e s m args below meth c H locs la hC hR hL hq
  refine kk x p e s m args below meth c H locs la hC hR ⟨by rw [← hL.1]; rfl, hL.2.1, hL.2.2.1, fun i v hi => hL.2.2.2 i v ?_⟩ hq
  by_cases h : i = 5
  · subst h; simp at hi
  · have e1 : (a0 :: a1 :: a2 :: a3 :: a4 :: none :: t) = (a0 :: a1 :: a2 :: a3 :: a4 :: a5 :: t).set 5 none := rfl
    rw [e1, List.getElem?_set_ne (Ne.symm h)] at hi
    exact hi
theorem aw_istore6 (pc : Nat) {a0 a1 a2 a3 a4 a5 a6 : Option Value} {t : List (Option Value)} {v : Int32} (hd : decode Y.2.1 pc = .ok (.istore 6, 2)) (hp : prevB a5 = true) (kk : AW Y R Q (pc + 2) (a0 :: a1 :: a2 :: a3 :: a4 :: a5 :: some (.int v) :: t) st M cs ss) : AW Y R Q pc (a0 :: a1 :: a2 :: a3 :: a4 :: a5 :: a6 :: t) (.int v :: st) M cs ss := by
  intro x p e s m args below meth c H locs la hC hR hL hq
  have hn : 6 < Y.2.2.1 := by rw [← hL.1]; simp only [List.length_cons]; omega
  refine lv_istore (lv := prs x (a0 :: a1 :: a2 :: a3 :: a4 :: a5 :: a6 :: t)) hC.1 hC.2.1 hd hL.has hn rfl (fun la2 hl2 => ?_)
  exact kk x p e s m args below meth c H locs la2 hC hR (LV0.set1 (v := .int v) hL.1 hn (fun j w h hj => by
      have hj1 : j = 5 := by omega
      subst hj1
      exact prevB_ok hp (Option.some.inj hj)) hl2) hq
theorem aw_astore6 (pc : Nat) {a0 a1 a2 a3 a4 a5 a6 : Option Value} {t : List (Option Value)} {v : Nat} (hd : decode Y.2.1 pc = .ok (.astore 6, 2)) (hp : prevB a5 = true) (kk : AW Y R Q (pc + 2) (a0 :: a1 :: a2 :: a3 :: a4 :: a5 :: some (.ref v) :: t) st M cs ss) : AW Y R Q pc (a0 :: a1 :: a2 :: a3 :: a4 :: a5 :: a6 :: t) (.ref v :: st) M cs ss := by
  intro x p e s m args below meth c H locs la hC hR hL hq
  have hn : 6 < Y.2.2.1 := by rw [← hL.1]; simp only [List.length_cons]; omega
  refine lv_astore (lv := prs x (a0 :: a1 :: a2 :: a3 :: a4 :: a5 :: a6 :: t)) hC.1 hC.2.1 hd hL.has hn rfl (fun la2 hl2 => ?_)
  exact kk x p e s m args below meth c H locs la2 hC hR (LV0.set1 (v := .ref v) hL.1 hn (fun j w h hj => by
      have hj1 : j = 5 := by omega
      subst hj1
      exact prevB_ok hp (Option.some.inj hj)) hl2) hq
theorem aw_astoreN6 (pc : Nat) {a0 a1 a2 a3 a4 a5 a6 : Option Value} {t : List (Option Value)} (hd : decode Y.2.1 pc = .ok (.astore 6, 2)) (hp : prevB a5 = true) (kk : AW Y R Q (pc + 2) (a0 :: a1 :: a2 :: a3 :: a4 :: a5 :: some .null :: t) st M cs ss) : AW Y R Q pc (a0 :: a1 :: a2 :: a3 :: a4 :: a5 :: a6 :: t) (.null :: st) M cs ss := by
  intro x p e s m args below meth c H locs la hC hR hL hq
  have hn : 6 < Y.2.2.1 := by rw [← hL.1]; simp only [List.length_cons]; omega
  refine lv_astoreN (lv := prs x (a0 :: a1 :: a2 :: a3 :: a4 :: a5 :: a6 :: t)) hC.1 hC.2.1 hd hL.has hn rfl (fun la2 hl2 => ?_)
  exact kk x p e s m args below meth c H locs la2 hC hR (LV0.set1 (v := .null) hL.1 hn (fun j w h hj => by
      have hj1 : j = 5 := by omega
      subst hj1
      exact prevB_ok hp (Option.some.inj hj)) hl2) hq
theorem aw_lstore6 (pc : Nat) {a0 a1 a2 a3 a4 a5 a6 a7 : Option Value} {t : List (Option Value)} {v : Int64} (hd : decode Y.2.1 pc = .ok (.lstore 6, 2)) (hp : prevB a5 = true) (kk : AW Y R Q (pc + 2) (a0 :: a1 :: a2 :: a3 :: a4 :: a5 :: some (.long v) :: none :: t) st M cs ss) : AW Y R Q pc (a0 :: a1 :: a2 :: a3 :: a4 :: a5 :: a6 :: a7 :: t) (.long v :: st) M cs ss := by
  intro x p e s m args below meth c H locs la hC hR hL hq
  have hn : 6 + 1 < Y.2.2.1 := by rw [← hL.1]; simp only [List.length_cons]; omega
  refine lv_lstore (lv := prs x (a0 :: a1 :: a2 :: a3 :: a4 :: a5 :: a6 :: a7 :: t)) hC.1 hC.2.1 hd hL.has hn rfl (fun la2 hl2 => ?_)
  exact kk x p e s m args below meth c H locs la2 hC hR (LV0.set2 (v := .long v) hL.1 hn (fun j w h hj => by
      have hj1 : j = 5 := by omega
      subst hj1
      exact prevB_ok hp (Option.some.inj hj)) hl2) hq
theorem aw_iinc6 (pc : Nat) {a0 a1 a2 a3 a4 a5 : Option Value} {t : List (Option Value)} {n : Int} {u : Int32} (v : Int32) (hd : decode Y.2.1 pc = .ok (.iinc 6 n, 3)) (hv : u + Int32.ofInt n = v) (hp : prevB a5 = true) (kk : AW Y R Q (pc + 3) (a0 :: a1 :: a2 :: a3 :: a4 :: a5 :: some (.int v) :: t) st M cs ss) : AW Y R Q pc (a0 :: a1 :: a2 :: a3 :: a4 :: a5 :: some (.int u) :: t) st M cs ss := by
  intro x p e s m args below meth c H locs la hC hR hL hq
  have hn : 6 < Y.2.2.1 := by rw [← hL.1]; simp only [List.length_cons]; omega
  obtain ⟨z, hz⟩ := List.getElem?_of_mem (prs_mem (x := x) (ls := a0 :: a1 :: a2 :: a3 :: a4 :: a5 :: some (.int u) :: t) (i := 6) (v := .int u) rfl)
  refine lv_iinc (lv := prs x (a0 :: a1 :: a2 :: a3 :: a4 :: a5 :: some (.int u) :: t)) (k := z) (x := u) (v := v) hC.1 hC.2.1 hd hL.has hz hv hn rfl (fun la2 hl2 => ?_)
  exact kk x p e s m args below meth c H locs la2 hC hR (LV0.set1 (v := .int v) hL.1 hn (fun j w h hj => by
      have hj1 : j = 5 := by omega
      subst hj1
      exact prevB_ok hp (Option.some.inj hj)) hl2) hq
theorem aw_drop6 {pc : Nat} {a0 a1 a2 a3 a4 a5 a6 : Option Value} {t : List (Option Value)} (kk : AW Y R Q pc (a0 :: a1 :: a2 :: a3 :: a4 :: a5 :: none :: t) st M cs ss) : AW Y R Q pc (a0 :: a1 :: a2 :: a3 :: a4 :: a5 :: a6 :: t) st M cs ss := by
  intro x p e s m args below meth c H locs la hC hR hL hq
  refine kk x p e s m args below meth c H locs la hC hR ⟨by rw [← hL.1]; rfl, hL.2.1, hL.2.2.1, fun i v hi => hL.2.2.2 i v ?_⟩ hq
  by_cases h : i = 6
  · subst h; simp at hi
  · have e1 : (a0 :: a1 :: a2 :: a3 :: a4 :: a5 :: none :: t) = (a0 :: a1 :: a2 :: a3 :: a4 :: a5 :: a6 :: t).set 6 none := rfl
    rw [e1, List.getElem?_set_ne (Ne.symm h)] at hi
    exact hi
theorem aw_istore7 (pc : Nat) {a0 a1 a2 a3 a4 a5 a6 a7 : Option Value} {t : List (Option Value)} {v : Int32} (hd : decode Y.2.1 pc = .ok (.istore 7, 2)) (hp : prevB a6 = true) (kk : AW Y R Q (pc + 2) (a0 :: a1 :: a2 :: a3 :: a4 :: a5 :: a6 :: some (.int v) :: t) st M cs ss) : AW Y R Q pc (a0 :: a1 :: a2 :: a3 :: a4 :: a5 :: a6 :: a7 :: t) (.int v :: st) M cs ss := by
  intro x p e s m args below meth c H locs la hC hR hL hq
  have hn : 7 < Y.2.2.1 := by rw [← hL.1]; simp only [List.length_cons]; omega
  refine lv_istore (lv := prs x (a0 :: a1 :: a2 :: a3 :: a4 :: a5 :: a6 :: a7 :: t)) hC.1 hC.2.1 hd hL.has hn rfl (fun la2 hl2 => ?_)
  exact kk x p e s m args below meth c H locs la2 hC hR (LV0.set1 (v := .int v) hL.1 hn (fun j w h hj => by
      have hj1 : j = 6 := by omega
      subst hj1
      exact prevB_ok hp (Option.some.inj hj)) hl2) hq
theorem aw_astore7 (pc : Nat) {a0 a1 a2 a3 a4 a5 a6 a7 : Option Value} {t : List (Option Value)} {v : Nat} (hd : decode Y.2.1 pc = .ok (.astore 7, 2)) (hp : prevB a6 = true) (kk : AW Y R Q (pc + 2) (a0 :: a1 :: a2 :: a3 :: a4 :: a5 :: a6 :: some (.ref v) :: t) st M cs ss) : AW Y R Q pc (a0 :: a1 :: a2 :: a3 :: a4 :: a5 :: a6 :: a7 :: t) (.ref v :: st) M cs ss := by
  intro x p e s m args below meth c H locs la hC hR hL hq
  have hn : 7 < Y.2.2.1 := by rw [← hL.1]; simp only [List.length_cons]; omega
  refine lv_astore (lv := prs x (a0 :: a1 :: a2 :: a3 :: a4 :: a5 :: a6 :: a7 :: t)) hC.1 hC.2.1 hd hL.has hn rfl (fun la2 hl2 => ?_)
  exact kk x p e s m args below meth c H locs la2 hC hR (LV0.set1 (v := .ref v) hL.1 hn (fun j w h hj => by
      have hj1 : j = 6 := by omega
      subst hj1
      exact prevB_ok hp (Option.some.inj hj)) hl2) hq
theorem aw_astoreN7 (pc : Nat) {a0 a1 a2 a3 a4 a5 a6 a7 : Option Value} {t : List (Option Value)} (hd : decode Y.2.1 pc = .ok (.astore 7, 2)) (hp : prevB a6 = true) (kk : AW Y R Q (pc + 2) (a0 :: a1 :: a2 :: a3 :: a4 :: a5 :: a6 :: some .null :: t) st M cs ss) : AW Y R Q pc (a0 :: a1 :: a2 :: a3 :: a4 :: a5 :: a6 :: a7 :: t) (.null :: st) M cs ss := by
  intro x p e s m args below meth c H locs la hC hR hL hq
  have hn : 7 < Y.2.2.1 := by rw [← hL.1]; simp only [List.length_cons]; omega
  refine lv_astoreN (lv := prs x (a0 :: a1 :: a2 :: a3 :: a4 :: a5 :: a6 :: a7 :: t)) hC.1 hC.2.1 hd hL.has hn rfl (fun la2 hl2 => ?_)
  exact kk x p e s m args below meth c H locs la2 hC hR (LV0.set1 (v := .null) hL.1 hn (fun j w h hj => by
      have hj1 : j = 6 := by omega
      subst hj1
      exact prevB_ok hp (Option.some.inj hj)) hl2) hq
theorem aw_lstore7 (pc : Nat) {a0 a1 a2 a3 a4 a5 a6 a7 a8 : Option Value} {t : List (Option Value)} {v : Int64} (hd : decode Y.2.1 pc = .ok (.lstore 7, 2)) (hp : prevB a6 = true) (kk : AW Y R Q (pc + 2) (a0 :: a1 :: a2 :: a3 :: a4 :: a5 :: a6 :: some (.long v) :: none :: t) st M cs ss) : AW Y R Q pc (a0 :: a1 :: a2 :: a3 :: a4 :: a5 :: a6 :: a7 :: a8 :: t) (.long v :: st) M cs ss := by
  intro x p e s m args below meth c H locs la hC hR hL hq
  have hn : 7 + 1 < Y.2.2.1 := by rw [← hL.1]; simp only [List.length_cons]; omega
  refine lv_lstore (lv := prs x (a0 :: a1 :: a2 :: a3 :: a4 :: a5 :: a6 :: a7 :: a8 :: t)) hC.1 hC.2.1 hd hL.has hn rfl (fun la2 hl2 => ?_)
  exact kk x p e s m args below meth c H locs la2 hC hR (LV0.set2 (v := .long v) hL.1 hn (fun j w h hj => by
      have hj1 : j = 6 := by omega
      subst hj1
      exact prevB_ok hp (Option.some.inj hj)) hl2) hq
theorem aw_iinc7 (pc : Nat) {a0 a1 a2 a3 a4 a5 a6 : Option Value} {t : List (Option Value)} {n : Int} {u : Int32} (v : Int32) (hd : decode Y.2.1 pc = .ok (.iinc 7 n, 3)) (hv : u + Int32.ofInt n = v) (hp : prevB a6 = true) (kk : AW Y R Q (pc + 3) (a0 :: a1 :: a2 :: a3 :: a4 :: a5 :: a6 :: some (.int v) :: t) st M cs ss) : AW Y R Q pc (a0 :: a1 :: a2 :: a3 :: a4 :: a5 :: a6 :: some (.int u) :: t) st M cs ss := by
  intro x p e s m args below meth c H locs la hC hR hL hq
  have hn : 7 < Y.2.2.1 := by rw [← hL.1]; simp only [List.length_cons]; omega
  obtain ⟨z, hz⟩ := List.getElem?_of_mem (prs_mem (x := x) (ls := a0 :: a1 :: a2 :: a3 :: a4 :: a5 :: a6 :: some (.int u) :: t) (i := 7) (v := .int u) rfl)
  refine lv_iinc (lv := prs x (a0 :: a1 :: a2 :: a3 :: a4 :: a5 :: a6 :: some (.int u) :: t)) (k := z) (x := u) (v := v) hC.1 hC.2.1 hd hL.has hz hv hn rfl (fun la2 hl2 => ?_)
  exact kk x p e s m args below meth c H locs la2 hC hR (LV0.set1 (v := .int v) hL.1 hn (fun j w h hj => by
      have hj1 : j = 6 := by omega
      subst hj1
      exact prevB_ok hp (Option.some.inj hj)) hl2) hq
theorem aw_drop7 {pc : Nat} {a0 a1 a2 a3 a4 a5 a6 a7 : Option Value} {t : List (Option Value)} (kk : AW Y R Q pc (a0 :: a1 :: a2 :: a3 :: a4 :: a5 :: a6 :: none :: t) st M cs ss) : AW Y R Q pc (a0 :: a1 :: a2 :: a3 :: a4 :: a5 :: a6 :: a7 :: t) st M cs ss := by
  intro x p e s m args below meth c H locs la hC hR hL hq
  refine kk x p e s m args below meth c H locs la hC hR ⟨by rw [← hL.1]; rfl, hL.2.1, hL.2.2.1, fun i v hi => hL.2.2.2 i v ?_⟩ hq
  by_cases h : i = 7
  · subst h; simp at hi
  · have e1 : (a0 :: a1 :: a2 :: a3 :: a4 :: a5 :: a6 :: none :: t) = (a0 :: a1 :: a2 :: a3 :: a4 :: a5 :: a6 :: a7 :: t).set 7 none := rfl
    rw [e1, List.getElem?_set_ne (Ne.symm h)] at hi
    exact hi
theorem aw_istore8 (pc : Nat) {a0 a1 a2 a3 a4 a5 a6 a7 a8 : Option Value} {t : List (Option Value)} {v : Int32} (hd : decode Y.2.1 pc = .ok (.istore 8, 2)) (hp : prevB a7 = true) (kk : AW Y R Q (pc + 2) (a0 :: a1 :: a2 :: a3 :: a4 :: a5 :: a6 :: a7 :: some (.int v) :: t) st M cs ss) : AW Y R Q pc (a0 :: a1 :: a2 :: a3 :: a4 :: a5 :: a6 :: a7 :: a8 :: t) (.int v :: st) M cs ss := by
  intro x p e s m args below meth c H locs la hC hR hL hq
  have hn : 8 < Y.2.2.1 := by rw [← hL.1]; simp only [List.length_cons]; omega
  refine lv_istore (lv := prs x (a0 :: a1 :: a2 :: a3 :: a4 :: a5 :: a6 :: a7 :: a8 :: t)) hC.1 hC.2.1 hd hL.has hn rfl (fun la2 hl2 => ?_)
  exact kk x p e s m args below meth c H locs la2 hC hR (LV0.set1 (v := .int v) hL.1 hn (fun j w h hj => by
      have hj1 : j = 7 := by omega
      subst hj1
      exact prevB_ok hp (Option.some.inj hj)) hl2) hq
theorem aw_astore8 (pc : Nat) {a0 a1 a2 a3 a4 a5 a6 a7 a8 : Option Value} {t : List (Option Value)} {v : Nat} (hd : decode Y.2.1 pc = .ok (.astore 8, 2)) (hp : prevB a7 = true) (kk : AW Y R Q (pc + 2) (a0 :: a1 :: a2 :: a3 :: a4 :: a5 :: a6 :: a7 :: some (.ref v) :: t) st M cs ss) : AW Y R Q pc (a0 :: a1 :: a2 :: a3 :: a4 :: a5 :: a6 :: a7 :: a8 :: t) (.ref v :: st) M cs ss := by
  intro x p e s m args below meth c H locs la hC hR hL hq
  have hn : 8 < Y.2.2.1 := by rw [← hL.1]; simp only [List.length_cons]; omega
  refine lv_astore (lv := prs x (a0 :: a1 :: a2 :: a3 :: a4 :: a5 :: a6 :: a7 :: a8 :: t)) hC.1 hC.2.1 hd hL.has hn rfl (fun la2 hl2 => ?_)
  exact kk x p e s m args below meth c H locs la2 hC hR (LV0.set1 (v := .ref v) hL.1 hn (fun j w h hj => by
      have hj1 : j = 7 := by omega
      subst hj1
      exact prevB_ok hp (Option.some.inj hj)) hl2) hq
theorem aw_astoreN8 (pc : Nat) {a0 a1 a2 a3 a4 a5 a6 a7 a8 : Option Value} {t : List (Option Value)} (hd : decode Y.2.1 pc = .ok (.astore 8, 2)) (hp : prevB a7 = true) (kk : AW Y R Q (pc + 2) (a0 :: a1 :: a2 :: a3 :: a4 :: a5 :: a6 :: a7 :: some .null :: t) st M cs ss) : AW Y R Q pc (a0 :: a1 :: a2 :: a3 :: a4 :: a5 :: a6 :: a7 :: a8 :: t) (.null :: st) M cs ss := by
  intro x p e s m args below meth c H locs la hC hR hL hq
  have hn : 8 < Y.2.2.1 := by rw [← hL.1]; simp only [List.length_cons]; omega
  refine lv_astoreN (lv := prs x (a0 :: a1 :: a2 :: a3 :: a4 :: a5 :: a6 :: a7 :: a8 :: t)) hC.1 hC.2.1 hd hL.has hn rfl (fun la2 hl2 => ?_)
  exact kk x p e s m args below meth c H locs la2 hC hR (LV0.set1 (v := .null) hL.1 hn (fun j w h hj => by
      have hj1 : j = 7 := by omega
      subst hj1
      exact prevB_ok hp (Option.some.inj hj)) hl2) hq
theorem aw_lstore8 (pc : Nat) {a0 a1 a2 a3 a4 a5 a6 a7 a8 a9 : Option Value} {t : List (Option Value)} {v : Int64} (hd : decode Y.2.1 pc = .ok (.lstore 8, 2)) (hp : prevB a7 = true) (kk : AW Y R Q (pc + 2) (a0 :: a1 :: a2 :: a3 :: a4 :: a5 :: a6 :: a7 :: some (.long v) :: none :: t) st M cs ss) : AW Y R Q pc (a0 :: a1 :: a2 :: a3 :: a4 :: a5 :: a6 :: a7 :: a8 :: a9 :: t) (.long v :: st) M cs ss := by
  intro x p e s m args below meth c H locs la hC hR hL hq
  have hn : 8 + 1 < Y.2.2.1 := by rw [← hL.1]; simp only [List.length_cons]; omega
  refine lv_lstore (lv := prs x (a0 :: a1 :: a2 :: a3 :: a4 :: a5 :: a6 :: a7 :: a8 :: a9 :: t)) hC.1 hC.2.1 hd hL.has hn rfl (fun la2 hl2 => ?_)
  exact kk x p e s m args below meth c H locs la2 hC hR (LV0.set2 (v := .long v) hL.1 hn (fun j w h hj => by
      have hj1 : j = 7 := by omega
      subst hj1
      exact prevB_ok hp (Option.some.inj hj)) hl2) hq
theorem aw_iinc8 (pc : Nat) {a0 a1 a2 a3 a4 a5 a6 a7 : Option Value} {t : List (Option Value)} {n : Int} {u : Int32} (v : Int32) (hd : decode Y.2.1 pc = .ok (.iinc 8 n, 3)) (hv : u + Int32.ofInt n = v) (hp : prevB a7 = true) (kk : AW Y R Q (pc + 3) (a0 :: a1 :: a2 :: a3 :: a4 :: a5 :: a6 :: a7 :: some (.int v) :: t) st M cs ss) : AW Y R Q pc (a0 :: a1 :: a2 :: a3 :: a4 :: a5 :: a6 :: a7 :: some (.int u) :: t) st M cs ss := by
  intro x p e s m args below meth c H locs la hC hR hL hq
  have hn : 8 < Y.2.2.1 := by rw [← hL.1]; simp only [List.length_cons]; omega
  obtain ⟨z, hz⟩ := List.getElem?_of_mem (prs_mem (x := x) (ls := a0 :: a1 :: a2 :: a3 :: a4 :: a5 :: a6 :: a7 :: some (.int u) :: t) (i := 8) (v := .int u) rfl)
  refine lv_iinc (lv := prs x (a0 :: a1 :: a2 :: a3 :: a4 :: a5 :: a6 :: a7 :: some (.int u) :: t)) (k := z) (x := u) (v := v) hC.1 hC.2.1 hd hL.has hz hv hn rfl (fun la2 hl2 => ?_)
  exact kk x p e s m args below meth c H locs la2 hC hR (LV0.set1 (v := .int v) hL.1 hn (fun j w h hj => by
      have hj1 : j = 7 := by omega
      subst hj1
      exact prevB_ok hp (Option.some.inj hj)) hl2) hq
theorem aw_drop8 {pc : Nat} {a0 a1 a2 a3 a4 a5 a6 a7 a8 : Option Value} {t : List (Option Value)} (kk : AW Y R Q pc (a0 :: a1 :: a2 :: a3 :: a4 :: a5 :: a6 :: a7 :: none :: t) st M cs ss) : AW Y R Q pc (a0 :: a1 :: a2 :: a3 :: a4 :: a5 :: a6 :: a7 :: a8 :: t) st M cs ss := by
  intro x p e s m args below meth c H locs la hC hR hL hq
  refine kk x p e s m args below meth c H locs la hC hR ⟨by rw [← hL.1]; rfl, hL.2.1, hL.2.2.1, fun i v hi => hL.2.2.2 i v ?_⟩ hq
  by_cases h : i = 8
  · subst h; simp at hi
  · have e1 : (a0 :: a1 :: a2 :: a3 :: a4 :: a5 :: a6 :: a7 :: none :: t) = (a0 :: a1 :: a2 :: a3 :: a4 :: a5 :: a6 :: a7 :: a8 :: t).set 8 none := rfl
    rw [e1, List.getElem?_set_ne (Ne.symm h)] at hi
    exact hi
theorem aw_istore9 (pc : Nat) {a0 a1 a2 a3 a4 a5 a6 a7 a8 a9 : Option Value} {t : List (Option Value)} {v : Int32} (hd : decode Y.2.1 pc = .ok (.istore 9, 2)) (hp : prevB a8 = true) (kk : AW Y R Q (pc + 2) (a0 :: a1 :: a2 :: a3 :: a4 :: a5 :: a6 :: a7 :: a8 :: some (.int v) :: t) st M cs ss) : AW Y R Q pc (a0 :: a1 :: a2 :: a3 :: a4 :: a5 :: a6 :: a7 :: a8 :: a9 :: t) (.int v :: st) M cs ss := by
  intro x p e s m args below meth c H locs la hC hR hL hq
  have hn : 9 < Y.2.2.1 := by rw [← hL.1]; simp only [List.length_cons]; omega
  refine lv_istore (lv := prs x (a0 :: a1 :: a2 :: a3 :: a4 :: a5 :: a6 :: a7 :: a8 :: a9 :: t)) hC.1 hC.2.1 hd hL.has hn rfl (fun la2 hl2 => ?_)
  exact kk x p e s m args below meth c H locs la2 hC hR (LV0.set1 (v := .int v) hL.1 hn (fun j w h hj => by
      have hj1 : j = 8 := by omega
      subst hj1
      exact prevB_ok hp (Option.some.inj hj)) hl2) hq
theorem aw_astore9 (pc : Nat) {a0 a1 a2 a3 a4 a5 a6 a7 a8 a9 : Option Value} {t : List (Option Value)} {v : Nat} (hd : decode Y.2.1 pc = .ok (.astore 9, 2)) (hp : prevB a8 = true) (kk : AW Y R Q (pc + 2) (a0 :: a1 :: a2 :: a3 :: a4 :: a5 :: a6 :: a7 :: a8 :: some (.ref v) :: t) st M cs ss) : AW Y R Q pc (a0 :: a1 :: a2 :: a3 :: a4 :: a5 :: a6 :: a7 :: a8 :: a9 :: t) (.ref v :: st) M cs ss := by
  intro x p e s m args below meth c H locs la hC hR hL hq
  have hn : 9 < Y.2.2.1 := by rw [← hL.1]; simp only [List.length_cons]; omega
  refine lv_astore (lv := prs x (a0 :: a1 :: a2 :: a3 :: a4 :: a5 :: a6 :: a7 :: a8 :: a9 :: t)) hC.1 hC.2.1 hd hL.has hn rfl (fun la2 hl2 => ?_)
  exact kk x p e s m args below meth c H locs la2 hC hR (LV0.set1 (v := .ref v) hL.1 hn (fun j w h hj => by
      have hj1 : j = 8 := by omega
      subst hj1
      exact prevB_ok hp (Option.some.inj hj)) hl2) hq
theorem aw_astoreN9 (pc : Nat) {a0 a1 a2 a3 a4 a5 a6 a7 a8 a9 : Option Value} {t : List (Option Value)} (hd : decode Y.2.1 pc = .ok (.astore 9, 2)) (hp : prevB a8 = true) (kk : AW Y R Q (pc + 2) (a0 :: a1 :: a2 :: a3 :: a4 :: a5 :: a6 :: a7 :: a8 :: some .null :: t) st M cs ss) : AW Y R Q pc (a0 :: a1 :: a2 :: a3 :: a4 :: a5 :: a6 :: a7 :: a8 :: a9 :: t) (.null :: st) M cs ss := by
  intro x p e s m args below meth c H locs la hC hR hL hq
  have hn : 9 < Y.2.2.1 := by rw [← hL.1]; simp only [List.length_cons]; omega
  refine lv_astoreN (lv := prs x (a0 :: a1 :: a2 :: a3 :: a4 :: a5 :: a6 :: a7 :: a8 :: a9 :: t)) hC.1 hC.2.1 hd hL.has hn rfl (fun la2 hl2 => ?_)
  exact kk x p e s m args below meth c H locs la2 hC hR (LV0.set1 (v := .null) hL.1 hn (fun j w h hj => by
      have hj1 : j = 8 := by omega
      subst hj1
      exact prevB_ok hp (Option.some.inj hj)) hl2) hq
theorem aw_lstore9 (pc : Nat) {a0 a1 a2 a3 a4 a5 a6 a7 a8 a9 a10 : Option Value} {t : List (Option Value)} {v : Int64} (hd : decode Y.2.1 pc = .ok (.lstore 9, 2)) (hp : prevB a8 = true) (kk : AW Y R Q (pc + 2) (a0 :: a1 :: a2 :: a3 :: a4 :: a5 :: a6 :: a7 :: a8 :: some (.long v) :: none :: t) st M cs ss) : AW Y R Q pc (a0 :: a1 :: a2 :: a3 :: a4 :: a5 :: a6 :: a7 :: a8 :: a9 :: a10 :: t) (.long v :: st) M cs ss := by
  intro x p e s m args below meth c H locs la hC hR hL hq
  have hn : 9 + 1 < Y.2.2.1 := by rw [← hL.1]; simp only [List.length_cons]; omega
  refine lv_lstore (lv := prs x (a0 :: a1 :: a2 :: a3 :: a4 :: a5 :: a6 :: a7 :: a8 :: a9 :: a10 :: t)) hC.1 hC.2.1 hd hL.has hn rfl (fun la2 hl2 => ?_)
  exact kk x p e s m args below meth c H locs la2 hC hR (LV0.set2 (v := .long v) hL.1 hn (fun j w h hj => by
      have hj1 : j = 8 := by omega
      subst hj1
      exact prevB_ok hp (Option.some.inj hj)) hl2) hq
theorem aw_iinc9 (pc : Nat) {a0 a1 a2 a3 a4 a5 a6 a7 a8 : Option Value} {t : List (Option Value)} {n : Int} {u : Int32} (v : Int32) (hd : decode Y.2.1 pc = .ok (.iinc 9 n, 3)) (hv : u + Int32.ofInt n = v) (hp : prevB a8 = true) (kk : AW Y R Q (pc + 3) (a0 :: a1 :: a2 :: a3 :: a4 :: a5 :: a6 :: a7 :: a8 :: some (.int v) :: t) st M cs ss) : AW Y R Q pc (a0 :: a1 :: a2 :: a3 :: a4 :: a5 :: a6 :: a7 :: a8 :: some (.int u) :: t) st M cs ss := by
  intro x p e s m args below meth c H locs la hC hR hL hq
  have hn : 9 < Y.2.2.1 := by rw [← hL.1]; simp only [List.length_cons]; omega
  obtain ⟨z, hz⟩ := List.getElem?_of_mem (prs_mem (x := x) (ls := a0 :: a1 :: a2 :: a3 :: a4 :: a5 :: a6 :: a7 :: a8 :: some (.int u) :: t) (i := 9) (v := .int u) rfl)
  refine lv_iinc (lv := prs x (a0 :: a1 :: a2 :: a3 :: a4 :: a5 :: a6 :: a7 :: a8 :: some (.int u) :: t)) (k := z) (x := u) (v := v) hC.1 hC.2.1 hd hL.has hz hv hn rfl (fun la2 hl2 => ?_)
  exact kk x p e s m args below meth c H locs la2 hC hR (LV0.set1 (v := .int v) hL.1 hn (fun j w h hj => by
      have hj1 : j = 8 := by omega
      subst hj1
      exact prevB_ok hp (Option.some.inj hj)) hl2) hq
theorem aw_drop9 {pc : Nat} {a0 a1 a2 a3 a4 a5 a6 a7 a8 a9 : Option Value} {t : List (Option Value)} (kk : AW Y R Q pc (a0 :: a1 :: a2 :: a3 :: a4 :: a5 :: a6 :: a7 :: a8 :: none :: t) st M cs ss) : AW Y R Q pc (a0 :: a1 :: a2 :: a3 :: a4 :: a5 :: a6 :: a7 :: a8 :: a9 :: t) st M cs ss := by
  intro x p e s m args below meth c H locs la hC hR hL hq
  refine kk x p e s m args below meth c H locs la hC hR ⟨by rw [← hL.1]; rfl, hL.2.1, hL.2.2.1, fun i v hi => hL.2.2.2 i v ?_⟩ hq
  by_cases h : i = 9
  · subst h; simp at hi
  · have e1 : (a0 :: a1 :: a2 :: a3 :: a4 :: a5 :: a6 :: a7 :: a8 :: none :: t) = (a0 :: a1 :: a2 :: a3 :: a4 :: a5 :: a6 :: a7 :: a8 :: a9 :: t).set 9 none := rfl
    rw [e1, List.getElem?_set_ne (Ne.symm h)] at hi
    exact hi
theorem aw_istore10 (pc : Nat) {a0 a1 a2 a3 a4 a5 a6 a7 a8 a9 a10 : Option Value} {t : List (Option Value)} {v : Int32} (hd : decode Y.2.1 pc = .ok (.istore 10, 2)) (hp : prevB a9 = true) (kk : AW Y R Q (pc + 2) (a0 :: a1 :: a2 :: a3 :: a4 :: a5 :: a6 :: a7 :: a8 :: a9 :: some (.int v) :: t) st M cs ss) : AW Y R Q pc (a0 :: a1 :: a2 :: a3 :: a4 :: a5 :: a6 :: a7 :: a8 :: a9 :: a10 :: t) (.int v :: st) M cs ss := by
  intro x p e s m args below meth c H locs la hC hR hL hq
  have hn : 10 < Y.2.2.1 := by rw [← hL.1]; simp only [List.length_cons]; omega
  refine lv_istore (lv := prs x (a0 :: a1 :: a2 :: a3 :: a4 :: a5 :: a6 :: a7 :: a8 :: a9 :: a10 :: t)) hC.1 hC.2.1 hd hL.has hn rfl (fun la2 hl2 => ?_)
  exact kk x p e s m args below meth c H locs la2 hC hR (LV0.set1 (v := .int v) hL.1 hn (fun j w h hj => by
      have hj1 : j = 9 := by omega
      subst hj1
      exact prevB_ok hp (Option.some.inj hj)) hl2) hq
theorem aw_astore10 (pc : Nat) {a0 a1 a2 a3 a4 a5 a6 a7 a8 a9 a10 : Option Value} {t : List (Option Value)} {v : Nat} (hd : decode Y.2.1 pc = .ok (.astore 10, 2)) (hp : prevB a9 = true) (kk : AW Y R Q (pc + 2) (a0 :: a1 :: a2 :: a3 :: a4 :: a5 :: a6 :: a7 :: a8 :: a9 :: some (.ref v) :: t) st M cs ss) : AW Y R Q pc (a0 :: a1 :: a2 :: a3 :: a4 :: a5 :: a6 :: a7 :: a8 :: a9 :: a10 :: t) (.ref v :: st) M cs ss := by
  intro x p e s m args below meth c H locs la hC hR hL hq
  have hn : 10 < Y.2.2.1 := by rw [← hL.1]; simp only [List.length_cons]; omega
  refine lv_astore (lv := prs x (a0 :: a1 :: a2 :: a3 :: a4 :: a5 :: a6 :: a7 :: a8 :: a9 :: a10 :: t)) hC.1 hC.2.1 hd hL.has hn rfl (fun la2 hl2 => ?_)
  exact kk x p e s m args below meth c H locs la2 hC hR (LV0.set1 (v := .ref v) hL.1 hn (fun j w h hj => by
      have hj1 : j = 9 := by omega
      subst hj1
      exact prevB_ok hp (Option.some.inj hj)) hl2) hq
theorem aw_astoreN10 (pc : Nat) {a0 a1 a2 a3 a4 a5 a6 a7 a8 a9 a10 : Option Value} {t : List (Option Value)} (hd : decode Y.2.1 pc = .ok (.astore 10, 2)) (hp : prevB a9 = true) (kk : AW Y R Q (pc + 2) (a0 :: a1 :: a2 :: a3 :: a4 :: a5 :: a6 :: a7 :: a8 :: a9 :: some .null :: t) st M cs ss) : AW Y R Q pc (a0 :: a1 :: a2 :: a3 :: a4 :: a5 :: a6 :: a7 :: a8 :: a9 :: a10 :: t) (.null :: st) M cs ss := by
  intro x p e s m args below meth c H locs la hC hR hL hq
  have hn : 10 < Y.2.2.1 := by rw [← hL.1]; simp only [List.length_cons]; omega
  refine lv_astoreN (lv := prs x (a0 :: a1 :: a2 :: a3 :: a4 :: a5 :: a6 :: a7 :: a8 :: a9 :: a10 :: t)) hC.1 hC.2.1 hd hL.has hn rfl (fun la2 hl2 => ?_)
  exact kk x p e s m args below meth c H locs la2 hC hR (LV0.set1 (v := .null) hL.1 hn (fun j w h hj => by
      have hj1 : j = 9 := by omega
      subst hj1
      exact prevB_ok hp (Option.some.inj hj)) hl2) hq
theorem aw_lstore10 (pc : Nat) {a0 a1 a2 a3 a4 a5 a6 a7 a8 a9 a10 a11 : Option Value} {t : List (Option Value)} {v : Int64} (hd : decode Y.2.1 pc = .ok (.lstore 10, 2)) (hp : prevB a9 = true) (kk : AW Y R Q (pc + 2) (a0 :: a1 :: a2 :: a3 :: a4 :: a5 :: a6 :: a7 :: a8 :: a9 :: some (.long v) :: none :: t) st M cs ss) : AW Y R Q pc (a0 :: a1 :: a2 :: a3 :: a4 :: a5 :: a6 :: a7 :: a8 :: a9 :: a10 :: a11 :: t) (.long v :: st) M cs ss := by
  intro x p e s m args below meth c H locs la hC hR hL hq
  have hn : 10 + 1 < Y.2.2.1 := by rw [← hL.1]; simp only [List.length_cons]; omega
  refine lv_lstore (lv := prs x (a0 :: a1 :: a2 :: a3 :: a4 :: a5 :: a6 :: a7 :: a8 :: a9 :: a10 :: a11 :: t)) hC.1 hC.2.1 hd hL.has hn rfl (fun la2 hl2 => ?_)
  exact kk x p e s m args below meth c H locs la2 hC hR (LV0.set2 (v := .long v) hL.1 hn (fun j w h hj => by
      have hj1 : j = 9 := by omega
      subst hj1
      exact prevB_ok hp (Option.some.inj hj)) hl2) hq
theorem aw_iinc10 (pc : Nat) {a0 a1 a2 a3 a4 a5 a6 a7 a8 a9 : Option Value} {t : List (Option Value)} {n : Int} {u : Int32} (v : Int32) (hd : decode Y.2.1 pc = .ok (.iinc 10 n, 3)) (hv : u + Int32.ofInt n = v) (hp : prevB a9 = true) (kk : AW Y R Q (pc + 3) (a0 :: a1 :: a2 :: a3 :: a4 :: a5 :: a6 :: a7 :: a8 :: a9 :: some (.int v) :: t) st M cs ss) : AW Y R Q pc (a0 :: a1 :: a2 :: a3 :: a4 :: a5 :: a6 :: a7 :: a8 :: a9 :: some (.int u) :: t) st M cs ss := by
  intro x p e s m args below meth c H locs la hC hR hL hq
  have hn : 10 < Y.2.2.1 := by rw [← hL.1]; simp only [List.length_cons]; omega
  obtain ⟨z, hz⟩ := List.getElem?_of_mem (prs_mem (x := x) (ls := a0 :: a1 :: a2 :: a3 :: a4 :: a5 :: a6 :: a7 :: a8 :: a9 :: some (.int u) :: t) (i := 10) (v := .int u) rfl)
  refine lv_iinc (lv := prs x (a0 :: a1 :: a2 :: a3 :: a4 :: a5 :: a6 :: a7 :: a8 :: a9 :: some (.int u) :: t)) (k := z) (x := u) (v := v) hC.1 hC.2.1 hd hL.has hz hv hn rfl (fun la2 hl2 => ?_)
  exact kk x p e s m args below meth c H locs la2 hC hR (LV0.set1 (v := .int v) hL.1 hn (fun j w h hj => by
      have hj1 : j = 9 := by omega
      subst hj1
      exact prevB_ok hp (Option.some.inj hj)) hl2) hq
theorem aw_drop10 {pc : Nat} {a0 a1 a2 a3 a4 a5 a6 a7 a8 a9 a10 : Option Value} {t : List (Option Value)} (kk : AW Y R Q pc (a0 :: a1 :: a2 :: a3 :: a4 :: a5 :: a6 :: a7 :: a8 :: a9 :: none :: t) st M cs ss) : AW Y R Q pc (a0 :: a1 :: a2 :: a3 :: a4 :: a5 :: a6 :: a7 :: a8 :: a9 :: a10 :: t) st M cs ss := by
  intro x p e s m args below meth c H locs la hC hR hL hq
  refine kk x p e s m args below meth c H locs la hC hR ⟨by rw [← hL.1]; rfl, hL.2.1, hL.2.2.1, fun i v hi => hL.2.2.2 i v ?_⟩ hq
  by_cases h : i = 10
  · subst h; simp at hi
  · have e1 : (a0 :: a1 :: a2 :: a3 :: a4 :: a5 :: a6 :: a7 :: a8 :: a9 :: none :: t) = (a0 :: a1 :: a2 :: a3 :: a4 :: a5 :: a6 :: a7 :: a8 :: a9 :: a10 :: t).set 10 none := rfl
    rw [e1, List.getElem?_set_ne (Ne.symm h)] at hi
    exact hi
theorem aw_istore11 (pc : Nat) {a0 a1 a2 a3 a4 a5 a6 a7 a8 a9 a10 a11 : Option Value} {t : List (Option Value)} {v : Int32} (hd : decode Y.2.1 pc = .ok (.istore 11, 2)) (hp : prevB a10 = true) (kk : AW Y R Q (pc + 2) (a0 :: a1 :: a2 :: a3 :: a4 :: a5 :: a6 :: a7 :: a8 :: a9 :: a10 :: some (.int v) :: t) st M cs ss) : AW Y R Q pc (a0 :: a1 :: a2 :: a3 :: a4 :: a5 :: a6 :: a7 :: a8 :: a9 :: a10 :: a11 :: t) (.int v :: st) M cs ss := by
  intro x p e s m args below meth c H locs la hC hR hL hq
  have hn : 11 < Y.2.2.1 := by rw [← hL.1]; simp only [List.length_cons]; omega
  refine lv_istore (lv := prs x (a0 :: a1 :: a2 :: a3 :: a4 :: a5 :: a6 :: a7 :: a8 :: a9 :: a10 :: a11 :: t)) hC.1 hC.2.1 hd hL.has hn rfl (fun la2 hl2 => ?_)
  exact kk x p e s m args below meth c H locs la2 hC hR (LV0.set1 (v := .int v) hL.1 hn (fun j w h hj => by
      have hj1 : j = 10 := by omega
      subst hj1
      exact prevB_ok hp (Option.some.inj hj)) hl2) hq
theorem aw_astore11 (pc : Nat) {a0 a1 a2 a3 a4 a5 a6 a7 a8 a9 a10 a11 : Option Value} {t : List (Option Value)} {v : Nat} (hd : decode Y.2.1 pc = .ok (.astore 11, 2)) (hp : prevB a10 = true) (kk : AW Y R Q (pc + 2) (a0 :: a1 :: a2 :: a3 :: a4 :: a5 :: a6 :: a7 :: a8 :: a9 :: a10 :: some (.ref v) :: t) st M cs ss) : AW Y R Q pc (a0 :: a1 :: a2 :: a3 :: a4 :: a5 :: a6 :: a7 :: a8 :: a9 :: a10 :: a11 :: t) (.ref v :: st) M cs ss := by
  intro x p e s m args below meth c H locs la hC hR hL hq
  have hn : 11 < Y.2.2.1 := by rw [← hL.1]; simp only [List.length_cons]; omega
  refine lv_astore (lv := prs x (a0 :: a1 :: a2 :: a3 :: a4 :: a5 :: a6 :: a7 :: a8 :: a9 :: a10 :: a11 :: t)) hC.1 hC.2.1 hd hL.has hn rfl (fun la2 hl2 => ?_)
  exact kk x p e s m args below meth c H locs la2 hC hR (LV0.set1 (v := .ref v) hL.1 hn (fun j w h hj => by
      have hj1 : j = 10 := by omega
      subst hj1
      exact prevB_ok hp (Option.some.inj hj)) hl2) hq
theorem aw_astoreN11 (pc : Nat) {a0 a1 a2 a3 a4 a5 a6 a7 a8 a9 a10 a11 : Option Value} {t : List (Option Value)} (hd : decode Y.2.1 pc = .ok (.astore 11, 2)) (hp : prevB a10 = true) (kk : AW Y R Q (pc + 2) (a0 :: a1 :: a2 :: a3 :: a4 :: a5 :: a6 :: a7 :: a8 :: a9 :: a10 :: some .null :: t) st M cs ss) : AW Y R Q pc (a0 :: a1 :: a2 :: a3 :: a4 :: a5 :: a6 :: a7 :: a8 :: a9 :: a10 :: a11 :: t) (.null :: st) M cs ss := by
  intro x p e s m args below meth c H locs la hC hR hL hq
  have hn : 11 < Y.2.2.1 := by rw [← hL.1]; simp only [List.length_cons]; omega
  refine lv_astoreN (lv := prs x (a0 :: a1 :: a2 :: a3 :: a4 :: a5 :: a6 :: a7 :: a8 :: a9 :: a10 :: a11 :: t)) hC.1 hC.2.1 hd hL.has hn rfl (fun la2 hl2 => ?_)
  exact kk x p e s m args below meth c H locs la2 hC hR (LV0.set1 (v := .null) hL.1 hn (fun j w h hj => by
      have hj1 : j = 10 := by omega
      subst hj1
      exact prevB_ok hp (Option.some.inj hj)) hl2) hq
theorem aw_lstore11 (pc : Nat) {a0 a1 a2 a3 a4 a5 a6 a7 a8 a9 a10 a11 a12 : Option Value} {t : List (Option Value)} {v : Int64} (hd : decode Y.2.1 pc = .ok (.lstore 11, 2)) (hp : prevB a10 = true) (kk : AW Y R Q (pc + 2) (a0 :: a1 :: a2 :: a3 :: a4 :: a5 :: a6 :: a7 :: a8 :: a9 :: a10 :: some (.long v) :: none :: t) st M cs ss) : AW Y R Q pc (a0 :: a1 :: a2 :: a3 :: a4 :: a5 :: a6 :: a7 :: a8 :: a9 :: a10 :: a11 :: a12 :: t) (.long v :: st) M cs ss := by
  intro x p e s m args below meth c H locs la hC hR hL hq
  have hn : 11 + 1 < Y.2.2.1 := by rw [← hL.1]; simp only [List.length_cons]; omega
  refine lv_lstore (lv := prs x (a0 :: a1 :: a2 :: a3 :: a4 :: a5 :: a6 :: a7 :: a8 :: a9 :: a10 :: a11 :: a12 :: t)) hC.1 hC.2.1 hd hL.has hn rfl (fun la2 hl2 => ?_)
  exact kk x p e s m args below meth c H locs la2 hC hR (LV0.set2 (v := .long v) hL.1 hn (fun j w h hj => by
      have hj1 : j = 10 := by omega
      subst hj1
      exact prevB_ok hp (Option.some.inj hj)) hl2) hq
theorem aw_iinc11 (pc : Nat) {a0 a1 a2 a3 a4 a5 a6 a7 a8 a9 a10 : Option Value} {t : List (Option Value)} {n : Int} {u : Int32} (v : Int32) (hd : decode Y.2.1 pc = .ok (.iinc 11 n, 3)) (hv : u + Int32.ofInt n = v) (hp : prevB a10 = true) (kk : AW Y R Q (pc + 3) (a0 :: a1 :: a2 :: a3 :: a4 :: a5 :: a6 :: a7 :: a8 :: a9 :: a10 :: some (.int v) :: t) st M cs ss) : AW Y R Q pc (a0 :: a1 :: a2 :: a3 :: a4 :: a5 :: a6 :: a7 :: a8 :: a9 :: a10 :: some (.int u) :: t) st M cs ss := by
  intro x p e s m args below meth c H locs la hC hR hL hq
  have hn : 11 < Y.2.2.1 := by rw [← hL.1]; simp only [List.length_cons]; omega
  obtain ⟨z, hz⟩ := List.getElem?_of_mem (prs_mem (x := x) (ls := a0 :: a1 :: a2 :: a3 :: a4 :: a5 :: a6 :: a7 :: a8 :: a9 :: a10 :: some (.int u) :: t) (i := 11) (v := .int u) rfl)
  refine lv_iinc (lv := prs x (a0 :: a1 :: a2 :: a3 :: a4 :: a5 :: a6 :: a7 :: a8 :: a9 :: a10 :: some (.int u) :: t)) (k := z) (x := u) (v := v) hC.1 hC.2.1 hd hL.has hz hv hn rfl (fun la2 hl2 => ?_)
  exact kk x p e s m args below meth c H locs la2 hC hR (LV0.set1 (v := .int v) hL.1 hn (fun j w h hj => by
      have hj1 : j = 10 := by omega
      subst hj1
      exact prevB_ok hp (Option.some.inj hj)) hl2) hq
theorem aw_drop11 {pc : Nat} {a0 a1 a2 a3 a4 a5 a6 a7 a8 a9 a10 a11 : Option Value} {t : List (Option Value)} (kk : AW Y R Q pc (a0 :: a1 :: a2 :: a3 :: a4 :: a5 :: a6 :: a7 :: a8 :: a9 :: a10 :: none :: t) st M cs ss) : AW Y R Q pc (a0 :: a1 :: a2 :: a3 :: a4 :: a5 :: a6 :: a7 :: a8 :: a9 :: a10 :: a11 :: t) st M cs ss := by
  intro x p e s m args below meth c H locs la hC hR hL hq
  refine kk x p e s m args below meth c H locs la hC hR ⟨by rw [← hL.1]; rfl, hL.2.1, hL.2.2.1, fun i v hi => hL.2.2.2 i v ?_⟩ hq
  by_cases h : i = 11
  · subst h; simp at hi
  · have e1 : (a0 :: a1 :: a2 :: a3 :: a4 :: a5 :: a6 :: a7 :: a8 :: a9 :: a10 :: none :: t) = (a0 :: a1 :: a2 :: a3 :: a4 :: a5 :: a6 :: a7 :: a8 :: a9 :: a10 :: a11 :: t).set 11 none := rfl
    rw [e1, List.getElem?_set_ne (Ne.symm h)] at hi
    exact hi
theorem aw_istore12 (pc : Nat) {a0 a1 a2 a3 a4 a5 a6 a7 a8 a9 a10 a11 a12 : Option Value} {t : List (Option Value)} {v : Int32} (hd : decode Y.2.1 pc = .ok (.istore 12, 2)) (hp : prevB a11 = true) (kk : AW Y R Q (pc + 2) (a0 :: a1 :: a2 :: a3 :: a4 :: a5 :: a6 :: a7 :: a8 :: a9 :: a10 :: a11 :: some (.int v) :: t) st M cs ss) : AW Y R Q pc (a0 :: a1 :: a2 :: a3 :: a4 :: a5 :: a6 :: a7 :: a8 :: a9 :: a10 :: a11 :: a12 :: t) (.int v :: st) M cs ss := by
  intro x p e s m args below meth c H locs la hC hR hL hq
  have hn : 12 < Y.2.2.1 := by rw [← hL.1]; simp only [List.length_cons]; omega
  refine lv_istore (lv := prs x (a0 :: a1 :: a2 :: a3 :: a4 :: a5 :: a6 :: a7 :: a8 :: a9 :: a10 :: a11 :: a12 :: t)) hC.1 hC.2.1 hd hL.has hn rfl (fun la2 hl2 => ?_)
  exact kk x p e s m args below meth c H locs la2 hC hR (LV0.set1 (v := .int v) hL.1 hn (fun j w h hj => by
      have hj1 : j = 11 := by omega
      subst hj1
      exact prevB_ok hp (Option.some.inj hj)) hl2) hq
theorem aw_astore12 (pc : Nat) {a0 a1 a2 a3 a4 a5 a6 a7 a8 a9 a10 a11 a12 : Option Value} {t : List (Option Value)} {v : Nat} (hd : decode Y.2.1 pc = .ok (.astore 12, 2)) (hp : prevB a11 = true) (kk : AW Y R Q (pc + 2) (a0 :: a1 :: a2 :: a3 :: a4 :: a5 :: a6 :: a7 :: a8 :: a9 :: a10 :: a11 :: some (.ref v) :: t) st M cs ss) : AW Y R Q pc (a0 :: a1 :: a2 :: a3 :: a4 :: a5 :: a6 :: a7 :: a8 :: a9 :: a10 :: a11 :: a12 :: t) (.ref v :: st) M cs ss := by
  intro x p e s m args below meth c H locs la hC hR hL hq
  have hn : 12 < Y.2.2.1 := by rw [← hL.1]; simp only [List.length_cons]; omega
  refine lv_astore (lv := prs x (a0 :: a1 :: a2 :: a3 :: a4 :: a5 :: a6 :: a7 :: a8 :: a9 :: a10 :: a11 :: a12 :: t)) hC.1 hC.2.1 hd hL.has hn rfl (fun la2 hl2 => ?_)
  exact kk x p e s m args below meth c H locs la2 hC hR (LV0.set1 (v := .ref v) hL.1 hn (fun j w h hj => by
      have hj1 : j = 11 := by omega
      subst hj1
      exact prevB_ok hp (Option.some.inj hj)) hl2) hq
theorem aw_astoreN12 (pc : Nat) {a0 a1 a2 a3 a4 a5 a6 a7 a8 a9 a10 a11 a12 : Option Value} {t : List (Option Value)} (hd : decode Y.2.1 pc = .ok (.astore 12, 2)) (hp : prevB a11 = true) (kk : AW Y R Q (pc + 2) (a0 :: a1 :: a2 :: a3 :: a4 :: a5 :: a6 :: a7 :: a8 :: a9 :: a10 :: a11 :: some .null :: t) st M cs ss) : AW Y R Q pc (a0 :: a1 :: a2 :: a3 :: a4 :: a5 :: a6 :: a7 :: a8 :: a9 :: a10 :: a11 :: a12 :: t) (.null :: st) M cs ss := by
  intro x p e s m args below meth c H locs la hC hR hL hq
  have hn : 12 < Y.2.2.1 := by rw [← hL.1]; simp only [List.length_cons]; omega
  refine lv_astoreN (lv := prs x (a0 :: a1 :: a2 :: a3 :: a4 :: a5 :: a6 :: a7 :: a8 :: a9 :: a10 :: a11 :: a12 :: t)) hC.1 hC.2.1 hd hL.has hn rfl (fun la2 hl2 => ?_)
  exact kk x p e s m args below meth c H locs la2 hC hR (LV0.set1 (v := .null) hL.1 hn (fun j w h hj => by
      have hj1 : j = 11 := by omega
      subst hj1
      exact prevB_ok hp (Option.some.inj hj)) hl2) hq
theorem aw_lstore12 (pc : Nat) {a0 a1 a2 a3 a4 a5 a6 a7 a8 a9 a10 a11 a12 a13 : Option Value} {t : List (Option Value)} {v : Int64} (hd : decode Y.2.1 pc = .ok (.lstore 12, 2)) (hp : prevB a11 = true) (kk : AW Y R Q (pc + 2) (a0 :: a1 :: a2 :: a3 :: a4 :: a5 :: a6 :: a7 :: a8 :: a9 :: a10 :: a11 :: some (.long v) :: none :: t) st M cs ss) : AW Y R Q pc (a0 :: a1 :: a2 :: a3 :: a4 :: a5 :: a6 :: a7 :: a8 :: a9 :: a10 :: a11 :: a12 :: a13 :: t) (.long v :: st) M cs ss := by
  intro x p e s m args below meth c H locs la hC hR hL hq
  have hn : 12 + 1 < Y.2.2.1 := by rw [← hL.1]; simp only [List.length_cons]; omega
  refine lv_lstore (lv := prs x (a0 :: a1 :: a2 :: a3 :: a4 :: a5 :: a6 :: a7 :: a8 :: a9 :: a10 :: a11 :: a12 :: a13 :: t)) hC.1 hC.2.1 hd hL.has hn rfl (fun la2 hl2 => ?_)
  exact kk x p e s m args below meth c H locs la2 hC hR (LV0.set2 (v := .long v) hL.1 hn (fun j w h hj => by
      have hj1 : j = 11 := by omega
      subst hj1
      exact prevB_ok hp (Option.some.inj hj)) hl2) hq
theorem aw_iinc12 (pc : Nat) {a0 a1 a2 a3 a4 a5 a6 a7 a8 a9 a10 a11 : Option Value} {t : List (Option Value)} {n : Int} {u : Int32} (v : Int32) (hd : decode Y.2.1 pc = .ok (.iinc 12 n, 3)) (hv : u + Int32.ofInt n = v) (hp : prevB a11 = true) (kk : AW Y R Q (pc + 3) (a0 :: a1 :: a2 :: a3 :: a4 :: a5 :: a6 :: a7 :: a8 :: a9 :: a10 :: a11 :: some (.int v) :: t) st M cs ss) : AW Y R Q pc (a0 :: a1 :: a2 :: a3 :: a4 :: a5 :: a6 :: a7 :: a8 :: a9 :: a10 :: a11 :: some (.int u) :: t) st M cs ss := by
  intro x p e s m args below meth c H locs la hC hR hL hq
  have hn : 12 < Y.2.2.1 := by rw [← hL.1]; simp only [List.length_cons]; omega
  obtain ⟨z, hz⟩ := List.getElem?_of_mem (prs_mem (x := x) (ls := a0 :: a1 :: a2 :: a3 :: a4 :: a5 :: a6 :: a7 :: a8 :: a9 :: a10 :: a11 :: some (.int u) :: t) (i := 12) (v := .int u) rfl)
  refine lv_iinc (lv := prs x (a0 :: a1 :: a2 :: a3 :: a4 :: a5 :: a6 :: a7 :: a8 :: a9 :: a10 :: a11 :: some (.int u) :: t)) (k := z) (x := u) (v := v) hC.1 hC.2.1 hd hL.has hz hv hn rfl (fun la2 hl2 => ?_)
  exact kk x p e s m args below meth c H locs la2 hC hR (LV0.set1 (v := .int v) hL.1 hn (fun j w h hj => by
      have hj1 : j = 11 := by omega
      subst hj1
      exact prevB_ok hp (Option.some.inj hj)) hl2) hq
theorem aw_drop12 {pc : Nat} {a0 a1 a2 a3 a4 a5 a6 a7 a8 a9 a10 a11 a12 : Option Value} {t : List (Option Value)} (kk : AW Y R Q pc (a0 :: a1 :: a2 :: a3 :: a4 :: a5 :: a6 :: a7 :: a8 :: a9 :: a10 :: a11 :: none :: t) st M cs ss) : AW Y R Q pc (a0 :: a1 :: a2 :: a3 :: a4 :: a5 :: a6 :: a7 :: a8 :: a9 :: a10 :: a11 :: a12 :: t) st M cs ss := by
  intro x p e s m args below meth c H locs la hC hR hL hq
  refine kk x p e s m args below meth c H locs la hC hR ⟨by rw [← hL.1]; rfl, hL.2.1, hL.2.2.1, fun i v hi => hL.2.2.2 i v ?_⟩ hq
  by_cases h : i = 12
  · subst h; simp at hi
  · have e1 : (a0 :: a1 :: a2 :: a3 :: a4 :: a5 :: a6 :: a7 :: a8 :: a9 :: a10 :: a11 :: none :: t) = (a0 :: a1 :: a2 :: a3 :: a4 :: a5 :: a6 :: a7 :: a8 :: a9 :: a10 :: a11 :: a12 :: t).set 12 none := rfl
    rw [e1, List.getElem?_set_ne (Ne.symm h)] at hi
    exact hi
theorem aw_istore13 (pc : Nat) {a0 a1 a2 a3 a4 a5 a6 a7 a8 a9 a10 a11 a12 a13 : Option Value} {t : List (Option Value)} {v : Int32} (hd : decode Y.2.1 pc = .ok (.istore 13, 2)) (hp : prevB a12 = true) (kk : AW Y R Q (pc + 2) (a0 :: a1 :: a2 :: a3 :: a4 :: a5 :: a6 :: a7 :: a8 :: a9 :: a10 :: a11 :: a12 :: some (.int v) :: t) st M cs ss) : AW Y R Q pc (a0 :: a1 :: a2 :: a3 :: a4 :: a5 :: a6 :: a7 :: a8 :: a9 :: a10 :: a11 :: a12 :: a13 :: t) (.int v :: st) M cs ss := by
  intro x p e s m args below meth c H locs la hC hR hL hq
  have hn : 13 < Y.2.2.1 := by rw [← hL.1]; simp only [List.length_cons]; omega
  refine lv_istore (lv := prs x (a0 :: a1 :: a2 :: a3 :: a4 :: a5 :: a6 :: a7 :: a8 :: a9 :: a10 :: a11 :: a12 :: a13 :: t)) hC.1 hC.2.1 hd hL.has hn rfl (fun la2 hl2 => ?_)
  exact kk x p e s m args below meth c H locs la2 hC hR (LV0.set1 (v := .int v) hL.1 hn (fun j w h hj => by
      have hj1 : j = 12 := by omega
      subst hj1
      exact prevB_ok hp (Option.some.inj hj)) hl2) hq
theorem aw_astore13 (pc : Nat) {a0 a1 a2 a3 a4 a5 a6 a7 a8 a9 a10 a11 a12 a13 : Option Value} {t : List (Option Value)} {v : Nat} (hd : decode Y.2.1 pc = .ok (.astore 13, 2)) (hp : prevB a12 = true) (kk : AW Y R Q (pc + 2) (a0 :: a1 :: a2 :: a3 :: a4 :: a5 :: a6 :: a7 :: a8 :: a9 :: a10 :: a11 :: a12 :: some (.ref v) :: t) st M cs ss) : AW Y R Q pc (a0 :: a1 :: a2 :: a3 :: a4 :: a5 :: a6 :: a7 :: a8 :: a9 :: a10 :: a11 :: a12 :: a13 :: t) (.ref v :: st) M cs ss := by
  intro x p e s m args below meth c H locs la hC hR hL hq
  have hn : 13 < Y.2.2.1 := by rw [← hL.1]; simp only [List.length_cons]; omega
  refine lv_astore (lv := prs x (a0 :: a1 :: a2 :: a3 :: a4 :: a5 :: a6 :: a7 :: a8 :: a9 :: a10 :: a11 :: a12 :: a13 :: t)) hC.1 hC.2.1 hd hL.has hn rfl (fun la2 hl2 => ?_)
  exact kk x p e s m args below meth c H locs la2 hC hR (LV0.set1 (v := .ref v) hL.1 hn (fun j w h hj => by
      have hj1 : j = 12 := by omega
      subst hj1
      exact prevB_ok hp (Option.some.inj hj)) hl2) hq
theorem aw_astoreN13 (pc : Nat) {a0 a1 a2 a3 a4 a5 a6 a7 a8 a9 a10 a11 a12 a13 : Option Value} {t : List (Option Value)} (hd : decode Y.2.1 pc = .ok (.astore 13, 2)) (hp : prevB a12 = true) (kk : AW Y R Q (pc + 2) (a0 :: a1 :: a2 :: a3 :: a4 :: a5 :: a6 :: a7 :: a8 :: a9 :: a10 :: a11 :: a12 :: some .null :: t) st M cs ss) : AW Y R Q pc (a0 :: a1 :: a2 :: a3 :: a4 :: a5 :: a6 :: a7 :: a8 :: a9 :: a10 :: a11 :: a12 :: a13 :: t) (.null :: st) M cs ss := by
  intro x p e s m args below meth c H locs la hC hR hL hq
  have hn : 13 < Y.2.2.1 := by rw [← hL.1]; simp only [List.length_cons]; omega
  refine lv_astoreN (lv := prs x (a0 :: a1 :: a2 :: a3 :: a4 :: a5 :: a6 :: a7 :: a8 :: a9 :: a10 :: a11 :: a12 :: a13 :: t)) hC.1 hC.2.1 hd hL.has hn rfl (fun la2 hl2 => ?_)
  exact kk x p e s m args below meth c H locs la2 hC hR (LV0.set1 (v := .null) hL.1 hn (fun j w h hj => by
      have hj1 : j = 12 := by omega
      subst hj1
      exact prevB_ok hp (Option.some.inj hj)) hl2) hq
theorem aw_lstore13 (pc : Nat) {a0 a1 a2 a3 a4 a5 a6 a7 a8 a9 a10 a11 a12 a13 a14 : Option Value} {t : List (Option Value)} {v : Int64} (hd : decode Y.2.1 pc = .ok (.lstore 13, 2)) (hp : prevB a12 = true) (kk : AW Y R Q (pc + 2) (a0 :: a1 :: a2 :: a3 :: a4 :: a5 :: a6 :: a7 :: a8 :: a9 :: a10 :: a11 :: a12 :: some (.long v) :: none :: t) st M cs ss) : AW Y R Q pc (a0 :: a1 :: a2 :: a3 :: a4 :: a5 :: a6 :: a7 :: a8 :: a9 :: a10 :: a11 :: a12 :: a13 :: a14 :: t) (.long v :: st) M cs ss := by
  intro x p e s m args below meth c H locs la hC hR hL hq
  have hn : 13 + 1 < Y.2.2.1 := by rw [← hL.1]; simp only [List.length_cons]; omega
  refine lv_lstore (lv := prs x (a0 :: a1 :: a2 :: a3 :: a4 :: a5 :: a6 :: a7 :: a8 :: a9 :: a10 :: a11 :: a12 :: a13 :: a14 :: t)) hC.1 hC.2.1 hd hL.has hn rfl (fun la2 hl2 => ?_)
  exact kk x p e s m args below meth c H locs la2 hC hR (LV0.set2 (v := .long v) hL.1 hn (fun j w h hj => by
      have hj1 : j = 12 := by omega
      subst hj1
      exact prevB_ok hp (Option.some.inj hj)) hl2) hq
theorem aw_iinc13 (pc : Nat) {a0 a1 a2 a3 a4 a5 a6 a7 a8 a9 a10 a11 a12 : Option Value} {t : List (Option Value)} {n : Int} {u : Int32} (v : Int32) (hd : decode Y.2.1 pc = .ok (.iinc 13 n, 3)) (hv : u + Int32.ofInt n = v) (hp : prevB a12 = true) (kk : AW Y R Q (pc + 3) (a0 :: a1 :: a2 :: a3 :: a4 :: a5 :: a6 :: a7 :: a8 :: a9 :: a10 :: a11 :: a12 :: some (.int v) :: t) st M cs ss) : AW Y R Q pc (a0 :: a1 :: a2 :: a3 :: a4 :: a5 :: a6 :: a7 :: a8 :: a9 :: a10 :: a11 :: a12 :: some (.int u) :: t) st M cs ss := by
  intro x p e s m args below meth c H locs la hC hR hL hq
  have hn : 13 < Y.2.2.1 := by rw [← hL.1]; simp only [List.length_cons]; omega
  obtain ⟨z, hz⟩ := List.getElem?_of_mem (prs_mem (x := x) (ls := a0 :: a1 :: a2 :: a3 :: a4 :: a5 :: a6 :: a7 :: a8 :: a9 :: a10 :: a11 :: a12 :: some (.int u) :: t) (i := 13) (v := .int u) rfl)
  refine lv_iinc (lv := prs x (a0 :: a1 :: a2 :: a3 :: a4 :: a5 :: a6 :: a7 :: a8 :: a9 :: a10 :: a11 :: a12 :: some (.int u) :: t)) (k := z) (x := u) (v := v) hC.1 hC.2.1 hd hL.has hz hv hn rfl (fun la2 hl2 => ?_)
  exact kk x p e s m args below meth c H locs la2 hC hR (LV0.set1 (v := .int v) hL.1 hn (fun j w h hj => by
      have hj1 : j = 12 := by omega
      subst hj1
      exact prevB_ok hp (Option.some.inj hj)) hl2) hq
theorem aw_drop13 {pc : Nat} {a0 a1 a2 a3 a4 a5 a6 a7 a8 a9 a10 a11 a12 a13 : Option Value} {t : List (Option Value)} (kk : AW Y R Q pc (a0 :: a1 :: a2 :: a3 :: a4 :: a5 :: a6 :: a7 :: a8 :: a9 :: a10 :: a11 :: a12 :: none :: t) st M cs ss) : AW Y R Q pc (a0 :: a1 :: a2 :: a3 :: a4 :: a5 :: a6 :: a7 :: a8 :: a9 :: a10 :: a11 :: a12 :: a13 :: t) st M cs ss := by
  intro x p e s m args below meth c H locs la hC hR hL hq
  refine kk x p e s m args below meth c H locs la hC hR ⟨by rw [← hL.1]; rfl, hL.2.1, hL.2.2.1, fun i v hi => hL.2.2.2 i v ?_⟩ hq
  by_cases h : i = 13
  · subst h; simp at hi
  · have e1 : (a0 :: a1 :: a2 :: a3 :: a4 :: a5 :: a6 :: a7 :: a8 :: a9 :: a10 :: a11 :: a12 :: none :: t) = (a0 :: a1 :: a2 :: a3 :: a4 :: a5 :: a6 :: a7 :: a8 :: a9 :: a10 :: a11 :: a12 :: a13 :: t).set 13 none := rfl
    rw [e1, List.getElem?_set_ne (Ne.symm h)] at hi
    exact hi
theorem aw_istore14 (pc : Nat) {a0 a1 a2 a3 a4 a5 a6 a7 a8 a9 a10 a11 a12 a13 a14 : Option Value} {t : List (Option Value)} {v : Int32} (hd : decode Y.2.1 pc = .ok (.istore 14, 2)) (hp : prevB a13 = true) (kk : AW Y R Q (pc + 2) (a0 :: a1 :: a2 :: a3 :: a4 :: a5 :: a6 :: a7 :: a8 :: a9 :: a10 :: a11 :: a12 :: a13 :: some (.int v) :: t) st M cs ss) : AW Y R Q pc (a0 :: a1 :: a2 :: a3 :: a4 :: a5 :: a6 :: a7 :: a8 :: a9 :: a10 :: a11 :: a12 :: a13 :: a14 :: t) (.int v :: st) M cs ss := by
  intro x p e s m args below meth c H locs la hC hR hL hq
  have hn : 14 < Y.2.2.1 := by rw [← hL.1]; simp only [List.length_cons]; omega
  refine lv_istore (lv := prs x (a0 :: a1 :: a2 :: a3 :: a4 :: a5 :: a6 :: a7 :: a8 :: a9 :: a10 :: a11 :: a12 :: a13 :: a14 :: t)) hC.1 hC.2.1 hd hL.has hn rfl (fun la2 hl2 => ?_)
  exact kk x p e s m args below meth c H locs la2 hC hR (LV0.set1 (v := .int v) hL.1 hn (fun j w h hj => by
      have hj1 : j = 13 := by omega
      subst hj1
      exact prevB_ok hp (Option.some.inj hj)) hl2) hq
theorem aw_astore14 (pc : Nat) {a0 a1 a2 a3 a4 a5 a6 a7 a8 a9 a10 a11 a12 a13 a14 : Option Value} {t : List (Option Value)} {v : Nat} (hd : decode Y.2.1 pc = .ok (.astore 14, 2)) (hp : prevB a13 = true) (kk : AW Y R Q (pc + 2) (a0 :: a1 :: a2 :: a3 :: a4 :: a5 :: a6 :: a7 :: a8 :: a9 :: a10 :: a11 :: a12 :: a13 :: some (.ref v) :: t) st M cs ss) : AW Y R Q pc (a0 :: a1 :: a2 :: a3 :: a4 :: a5 :: a6 :: a7 :: a8 :: a9 :: a10 :: a11 :: a12 :: a13 :: a14 :: t) (.ref v :: st) M cs ss := by
  intro x p e s m args below meth c H locs la hC hR hL hq
  have hn : 14 < Y.2.2.1 := by rw [← hL.1]; simp only [List.length_cons]; omega
  refine lv_astore (lv := prs x (a0 :: a1 :: a2 :: a3 :: a4 :: a5 :: a6 :: a7 :: a8 :: a9 :: a10 :: a11 :: a12 :: a13 :: a14 :: t)) hC.1 hC.2.1 hd hL.has hn rfl (fun la2 hl2 => ?_)
  exact kk x p e s m args below meth c H locs la2 hC hR (LV0.set1 (v := .ref v) hL.1 hn (fun j w h hj => by
      have hj1 : j = 13 := by omega
      subst hj1
      exact prevB_ok hp (Option.some.inj hj)) hl2) hq
theorem aw_astoreN14 (pc : Nat) {a0 a1 a2 a3 a4 a5 a6 a7 a8 a9 a10 a11 a12 a13 a14 : Option Value} {t : List (Option Value)} (hd : decode Y.2.1 pc = .ok (.astore 14, 2)) (hp : prevB a13 = true) (kk : AW Y R Q (pc + 2) (a0 :: a1 :: a2 :: a3 :: a4 :: a5 :: a6 :: a7 :: a8 :: a9 :: a10 :: a11 :: a12 :: a13 :: some .null :: t) st M cs ss) : AW Y R Q pc (a0 :: a1 :: a2 :: a3 :: a4 :: a5 :: a6 :: a7 :: a8 :: a9 :: a10 :: a11 :: a12 :: a13 :: a14 :: t) (.null :: st) M cs ss := by
  intro x p e s m args below meth c H locs la hC hR hL hq
  have hn : 14 < Y.2.2.1 := by rw [← hL.1]; simp only [List.length_cons]; omega
  refine lv_astoreN (lv := prs x (a0 :: a1 :: a2 :: a3 :: a4 :: a5 :: a6 :: a7 :: a8 :: a9 :: a10 :: a11 :: a12 :: a13 :: a14 :: t)) hC.1 hC.2.1 hd hL.has hn rfl (fun la2 hl2 => ?_)
  exact kk x p e s m args below meth c H locs la2 hC hR (LV0.set1 (v := .null) hL.1 hn (fun j w h hj => by
      have hj1 : j = 13 := by omega
      subst hj1
      exact prevB_ok hp (Option.some.inj hj)) hl2) hq
theorem aw_lstore14 (pc : Nat) {a0 a1 a2 a3 a4 a5 a6 a7 a8 a9 a10 a11 a12 a13 a14 a15 : Option Value} {t : List (Option Value)} {v : Int64} (hd : decode Y.2.1 pc = .ok (.lstore 14, 2)) (hp : prevB a13 = true) (kk : AW Y R Q (pc + 2) (a0 :: a1 :: a2 :: a3 :: a4 :: a5 :: a6 :: a7 :: a8 :: a9 :: a10 :: a11 :: a12 :: a13 :: some (.long v) :: none :: t) st M cs ss) : AW Y R Q pc (a0 :: a1 :: a2 :: a3 :: a4 :: a5 :: a6 :: a7 :: a8 :: a9 :: a10 :: a11 :: a12 :: a13 :: a14 :: a15 :: t) (.long v :: st) M cs ss := by
  intro x p e s m args below meth c H locs la hC hR hL hq
  have hn : 14 + 1 < Y.2.2.1 := by rw [← hL.1]; simp only [List.length_cons]; omega
  refine lv_lstore (lv := prs x (a0 :: a1 :: a2 :: a3 :: a4 :: a5 :: a6 :: a7 :: a8 :: a9 :: a10 :: a11 :: a12 :: a13 :: a14 :: a15 :: t)) hC.1 hC.2.1 hd hL.has hn rfl (fun la2 hl2 => ?_)
  exact kk x p e s m args below meth c H locs la2 hC hR (LV0.set2 (v := .long v) hL.1 hn (fun j w h hj => by
      have hj1 : j = 13 := by omega
      subst hj1
      exact prevB_ok hp (Option.some.inj hj)) hl2) hq
theorem aw_iinc14 (pc : Nat) {a0 a1 a2 a3 a4 a5 a6 a7 a8 a9 a10 a11 a12 a13 : Option Value} {t : List (Option Value)} {n : Int} {u : Int32} (v : Int32) (hd : decode Y.2.1 pc = .ok (.iinc 14 n, 3)) (hv : u + Int32.ofInt n = v) (hp : prevB a13 = true) (kk : AW Y R Q (pc + 3) (a0 :: a1 :: a2 :: a3 :: a4 :: a5 :: a6 :: a7 :: a8 :: a9 :: a10 :: a11 :: a12 :: a13 :: some (.int v) :: t) st M cs ss) : AW Y R Q pc (a0 :: a1 :: a2 :: a3 :: a4 :: a5 :: a6 :: a7 :: a8 :: a9 :: a10 :: a11 :: a12 :: a13 :: some (.int u) :: t) st M cs ss := by
  intro x p e s m args below meth c H locs la hC hR hL hq
  have hn : 14 < Y.2.2.1 := by rw [← hL.1]; simp only [List.length_cons]; omega
  obtain ⟨z, hz⟩ := List.getElem?_of_mem (prs_mem (x := x) (ls := a0 :: a1 :: a2 :: a3 :: a4 :: a5 :: a6 :: a7 :: a8 :: a9 :: a10 :: a11 :: a12 :: a13 :: some (.int u) :: t) (i := 14) (v := .int u) rfl)
  refine lv_iinc (lv := prs x (a0 :: a1 :: a2 :: a3 :: a4 :: a5 :: a6 :: a7 :: a8 :: a9 :: a10 :: a11 :: a12 :: a13 :: some (.int u) :: t)) (k := z) (x := u) (v := v) hC.1 hC.2.1 hd hL.has hz hv hn rfl (fun la2 hl2 => ?_)
  exact kk x p e s m args below meth c H locs la2 hC hR (LV0.set1 (v := .int v) hL.1 hn (fun j w h hj => by
      have hj1 : j = 13 := by omega
      subst hj1
      exact prevB_ok hp (Option.some.inj hj)) hl2) hq
theorem aw_drop14 {pc : Nat} {a0 a1 a2 a3 a4 a5 a6 a7 a8 a9 a10 a11 a12 a13 a14 : Option Value} {t : List (Option Value)} (kk : AW Y R Q pc (a0 :: a1 :: a2 :: a3 :: a4 :: a5 :: a6 :: a7 :: a8 :: a9 :: a10 :: a11 :: a12 :: a13 :: none :: t) st M cs ss) : AW Y R Q pc (a0 :: a1 :: a2 :: a3 :: a4 :: a5 :: a6 :: a7 :: a8 :: a9 :: a10 :: a11 :: a12 :: a13 :: a14 :: t) st M cs ss := by
  intro x p e s m args below meth c H locs la hC hR hL hq
  refine kk x p e s m args below meth c H locs la hC hR ⟨by rw [← hL.1]; rfl, hL.2.1, hL.2.2.1, fun i v hi => hL.2.2.2 i v ?_⟩ hq
  by_cases h : i = 14
  · subst h; simp at hi
  · have e1 : (a0 :: a1 :: a2 :: a3 :: a4 :: a5 :: a6 :: a7 :: a8 :: a9 :: a10 :: a11 :: a12 :: a13 :: none :: t) = (a0 :: a1 :: a2 :: a3 :: a4 :: a5 :: a6 :: a7 :: a8 :: a9 :: a10 :: a11 :: a12 :: a13 :: a14 :: t).set 14 none := rfl
    rw [e1, List.getElem?_set_ne (Ne.symm h)] at hi
    exact hi
theorem aw_istore15 (pc : Nat) {a0 a1 a2 a3 a4 a5 a6 a7 a8 a9 a10 a11 a12 a13 a14 a15 : Option Value} {t : List (Option Value)} {v : Int32} (hd : decode Y.2.1 pc = .ok (.istore 15, 2)) (hp : prevB a14 = true) (kk : AW Y R Q (pc + 2) (a0 :: a1 :: a2 :: a3 :: a4 :: a5 :: a6 :: a7 :: a8 :: a9 :: a10 :: a11 :: a12 :: a13 :: a14 :: some (.int v) :: t) st M cs ss) : AW Y R Q pc (a0 :: a1 :: a2 :: a3 :: a4 :: a5 :: a6 :: a7 :: a8 :: a9 :: a10 :: a11 :: a12 :: a13 :: a14 :: a15 :: t) (.int v :: st) M cs ss := by
  intro x p e s m args below meth c H locs la hC hR hL hq
  have hn : 15 < Y.2.2.1 := by rw [← hL.1]; simp only [List.length_cons]; omega
  refine lv_istore (lv := prs x (a0 :: a1 :: a2 :: a3 :: a4 :: a5 :: a6 :: a7 :: a8 :: a9 :: a10 :: a11 :: a12 :: a13 :: a14 :: a15 :: t)) hC.1 hC.2.1 hd hL.has hn rfl (fun la2 hl2 => ?_)
  exact kk x p e s m args below meth c H locs la2 hC hR (LV0.set1 (v := .int v) hL.1 hn (fun j w h hj => by
      have hj1 : j = 14 := by omega
      subst hj1
      exact prevB_ok hp (Option.some.inj hj)) hl2) hq
theorem aw_astore15 (pc : Nat) {a0 a1 a2 a3 a4 a5 a6 a7 a8 a9 a10 a11 a12 a13 a14 a15 : Option Value} {t : List (Option Value)} {v : Nat} (hd : decode Y.2.1 pc = .ok (.astore 15, 2)) (hp : prevB a14 = true) (kk : AW Y R Q (pc + 2) (a0 :: a1 :: a2 :: a3 :: a4 :: a5 :: a6 :: a7 :: a8 :: a9 :: a10 :: a11 :: a12 :: a13 :: a14 :: some (.ref v) :: t) st M cs ss) : AW Y R Q pc (a0 :: a1 :: a2 :: a3 :: a4 :: a5 :: a6 :: a7 :: a8 :: a9 :: a10 :: a11 :: a12 :: a13 :: a14 :: a15 :: t) (.ref v :: st) M cs ss := by
  intro x p e s m args below meth c H locs la hC hR hL hq
  have hn : 15 < Y.2.2.1 := by rw [← hL.1]; simp only [List.length_cons]; omega
  refine lv_astore (lv := prs x (a0 :: a1 :: a2 :: a3 :: a4 :: a5 :: a6 :: a7 :: a8 :: a9 :: a10 :: a11 :: a12 :: a13 :: a14 :: a15 :: t)) hC.1 hC.2.1 hd hL.has hn rfl (fun la2 hl2 => ?_)
  exact kk x p e s m args below meth c H locs la2 hC hR (LV0.set1 (v := .ref v) hL.1 hn (fun j w h hj => by
      have hj1 : j = 14 := by omega
      subst hj1
      exact prevB_ok hp (Option.some.inj hj)) hl2) hq
theorem aw_astoreN15 (pc : Nat) {a0 a1 a2 a3 a4 a5 a6 a7 a8 a9 a10 a11 a12 a13 a14 a15 : Option Value} {t : List (Option Value)} (hd : decode Y.2.1 pc = .ok (.astore 15, 2)) (hp : prevB a14 = true) (kk : AW Y R Q (pc + 2) (a0 :: a1 :: a2 :: a3 :: a4 :: a5 :: a6 :: a7 :: a8 :: a9 :: a10 :: a11 :: a12 :: a13 :: a14 :: some .null :: t) st M cs ss) : AW Y R Q pc (a0 :: a1 :: a2 :: a3 :: a4 :: a5 :: a6 :: a7 :: a8 :: a9 :: a10 :: a11 :: a12 :: a13 :: a14 :: a15 :: t) (.null :: st) M cs ss := by
  intro x p e s m args below meth c H locs la hC hR hL hq
  have hn : 15 < Y.2.2.1 := by rw [← hL.1]; simp only [List.length_cons]; omega
  refine lv_astoreN (lv := prs x (a0 :: a1 :: a2 :: a3 :: a4 :: a5 :: a6 :: a7 :: a8 :: a9 :: a10 :: a11 :: a12 :: a13 :: a14 :: a15 :: t)) hC.1 hC.2.1 hd hL.has hn rfl (fun la2 hl2 => ?_)
  exact kk x p e s m args below meth c H locs la2 hC hR (LV0.set1 (v := .null) hL.1 hn (fun j w h hj => by
      have hj1 : j = 14 := by omega
      subst hj1
      exact prevB_ok hp (Option.some.inj hj)) hl2) hq
theorem aw_lstore15 (pc : Nat) {a0 a1 a2 a3 a4 a5 a6 a7 a8 a9 a10 a11 a12 a13 a14 a15 a16 : Option Value} {t : List (Option Value)} {v : Int64} (hd : decode Y.2.1 pc = .ok (.lstore 15, 2)) (hp : prevB a14 = true) (kk : AW Y R Q (pc + 2) (a0 :: a1 :: a2 :: a3 :: a4 :: a5 :: a6 :: a7 :: a8 :: a9 :: a10 :: a11 :: a12 :: a13 :: a14 :: some (.long v) :: none :: t) st M cs ss) : AW Y R Q pc (a0 :: a1 :: a2 :: a3 :: a4 :: a5 :: a6 :: a7 :: a8 :: a9 :: a10 :: a11 :: a12 :: a13 :: a14 :: a15 :: a16 :: t) (.long v :: st) M cs ss := by
  intro x p e s m args below meth c H locs la hC hR hL hq
  have hn : 15 + 1 < Y.2.2.1 := by rw [← hL.1]; simp only [List.length_cons]; omega
  refine lv_lstore (lv := prs x (a0 :: a1 :: a2 :: a3 :: a4 :: a5 :: a6 :: a7 :: a8 :: a9 :: a10 :: a11 :: a12 :: a13 :: a14 :: a15 :: a16 :: t)) hC.1 hC.2.1 hd hL.has hn rfl (fun la2 hl2 => ?_)
  exact kk x p e s m args below meth c H locs la2 hC hR (LV0.set2 (v := .long v) hL.1 hn (fun j w h hj => by
      have hj1 : j = 14 := by omega
      subst hj1
      exact prevB_ok hp (Option.some.inj hj)) hl2) hq
theorem aw_iinc15 (pc : Nat) {a0 a1 a2 a3 a4 a5 a6 a7 a8 a9 a10 a11 a12 a13 a14 : Option Value} {t : List (Option Value)} {n : Int} {u : Int32} (v : Int32) (hd : decode Y.2.1 pc = .ok (.iinc 15 n, 3)) (hv : u + Int32.ofInt n = v) (hp : prevB a14 = true) (kk : AW Y R Q (pc + 3) (a0 :: a1 :: a2 :: a3 :: a4 :: a5 :: a6 :: a7 :: a8 :: a9 :: a10 :: a11 :: a12 :: a13 :: a14 :: some (.int v) :: t) st M cs ss) : AW Y R Q pc (a0 :: a1 :: a2 :: a3 :: a4 :: a5 :: a6 :: a7 :: a8 :: a9 :: a10 :: a11 :: a12 :: a13 :: a14 :: some (.int u) :: t) st M cs ss := by
  intro x p e s m args below meth c H locs la hC hR hL hq
  have hn : 15 < Y.2.2.1 := by rw [← hL.1]; simp only [List.length_cons]; omega
  obtain ⟨z, hz⟩ := List.getElem?_of_mem (prs_mem (x := x) (ls := a0 :: a1 :: a2 :: a3 :: a4 :: a5 :: a6 :: a7 :: a8 :: a9 :: a10 :: a11 :: a12 :: a13 :: a14 :: some (.int u) :: t) (i := 15) (v := .int u) rfl)
  refine lv_iinc (lv := prs x (a0 :: a1 :: a2 :: a3 :: a4 :: a5 :: a6 :: a7 :: a8 :: a9 :: a10 :: a11 :: a12 :: a13 :: a14 :: some (.int u) :: t)) (k := z) (x := u) (v := v) hC.1 hC.2.1 hd hL.has hz hv hn rfl (fun la2 hl2 => ?_)
  exact kk x p e s m args below meth c H locs la2 hC hR (LV0.set1 (v := .int v) hL.1 hn (fun j w h hj => by
      have hj1 : j = 14 := by omega
      subst hj1
      exact prevB_ok hp (Option.some.inj hj)) hl2) hq
theorem aw_drop15 {pc : Nat} {a0 a1 a2 a3 a4 a5 a6 a7 a8 a9 a10 a11 a12 a13 a14 a15 : Option Value} {t : List (Option Value)} (kk : AW Y R Q pc (a0 :: a1 :: a2 :: a3 :: a4 :: a5 :: a6 :: a7 :: a8 :: a9 :: a10 :: a11 :: a12 :: a13 :: a14 :: none :: t) st M cs ss) : AW Y R Q pc (a0 :: a1 :: a2 :: a3 :: a4 :: a5 :: a6 :: a7 :: a8 :: a9 :: a10 :: a11 :: a12 :: a13 :: a14 :: a15 :: t) st M cs ss := by
  intro x p e s m args below meth c H locs la hC hR hL hq
  refine kk x p e s m args below meth c H locs la hC hR ⟨by rw [← hL.1]; rfl, hL.2.1, hL.2.2.1, fun i v hi => hL.2.2.2 i v ?_⟩ hq
  by_cases h : i = 15
  · subst h; simp at hi
  · have e1 : (a0 :: a1 :: a2 :: a3 :: a4 :: a5 :: a6 :: a7 :: a8 :: a9 :: a10 :: a11 :: a12 :: a13 :: a14 :: none :: t) = (a0 :: a1 :: a2 :: a3 :: a4 :: a5 :: a6 :: a7 :: a8 :: a9 :: a10 :: a11 :: a12 :: a13 :: a14 :: a15 :: t).set 15 none := rfl
    rw [e1, List.getElem?_set_ne (Ne.symm h)] at hi
    exact hi
theorem aw_istore16 (pc : Nat) {a0 a1 a2 a3 a4 a5 a6 a7 a8 a9 a10 a11 a12 a13 a14 a15 a16 : Option Value} {t : List (Option Value)} {v : Int32} (hd : decode Y.2.1 pc = .ok (.istore 16, 2)) (hp : prevB a15 = true) (kk : AW Y R Q (pc + 2) (a0 :: a1 :: a2 :: a3 :: a4 :: a5 :: a6 :: a7 :: a8 :: a9 :: a10 :: a11 :: a12 :: a13 :: a14 :: a15 :: some (.int v) :: t) st M cs ss) : AW Y R Q pc (a0 :: a1 :: a2 :: a3 :: a4 :: a5 :: a6 :: a7 :: a8 :: a9 :: a10 :: a11 :: a12 :: a13 :: a14 :: a15 :: a16 :: t) (.int v :: st) M cs ss := by
  intro x p e s m args below meth c H locs la hC hR hL hq
  have hn : 16 < Y.2.2.1 := by rw [← hL.1]; simp only [List.length_cons]; omega
  refine lv_istore (lv := prs x (a0 :: a1 :: a2 :: a3 :: a4 :: a5 :: a6 :: a7 :: a8 :: a9 :: a10 :: a11 :: a12 :: a13 :: a14 :: a15 :: a16 :: t)) hC.1 hC.2.1 hd hL.has hn rfl (fun la2 hl2 => ?_)
  exact kk x p e s m args below meth c H locs la2 hC hR (LV0.set1 (v := .int v) hL.1 hn (fun j w h hj => by
      have hj1 : j = 15 := by omega
      subst hj1
      exact prevB_ok hp (Option.some.inj hj)) hl2) hq
theorem aw_astore16 (pc : Nat) {a0 a1 a2 a3 a4 a5 a6 a7 a8 a9 a10 a11 a12 a13 a14 a15 a16 : Option Value} {t : List (Option Value)} {v : Nat} (hd : decode Y.2.1 pc = .ok (.astore 16, 2)) (hp : prevB a15 = true) (kk : AW Y R Q (pc + 2) (a0 :: a1 :: a2 :: a3 :: a4 :: a5 :: a6 :: a7 :: a8 :: a9 :: a10 :: a11 :: a12 :: a13 :: a14 :: a15 :: some (.ref v) :: t) st M cs ss) : AW Y R Q pc (a0 :: a1 :: a2 :: a3 :: a4 :: a5 :: a6 :: a7 :: a8 :: a9 :: a10 :: a11 :: a12 :: a13 :: a14 :: a15 :: a16 :: t) (.ref v :: st) M cs ss := by
  intro x p e s m args below meth c H locs la hC hR hL hq
  have hn : 16 < Y.2.2.1 := by rw [← hL.1]; simp only [List.length_cons]; omega
  refine lv_astore (lv := prs x (a0 :: a1 :: a2 :: a3 :: a4 :: a5 :: a6 :: a7 :: a8 :: a9 :: a10 :: a11 :: a12 :: a13 :: a14 :: a15 :: a16 :: t)) hC.1 hC.2.1 hd hL.has hn rfl (fun la2 hl2 => ?_)
  exact kk x p e s m args below meth c H locs la2 hC hR (LV0.set1 (v := .ref v) hL.1 hn (fun j w h hj => by
      have hj1 : j = 15 := by omega
      subst hj1
      exact prevB_ok hp (Option.some.inj hj)) hl2) hq
theorem aw_astoreN16 (pc : Nat) {a0 a1 a2 a3 a4 a5 a6 a7 a8 a9 a10 a11 a12 a13 a14 a15 a16 : Option Value} {t : List (Option Value)} (hd : decode Y.2.1 pc = .ok (.astore 16, 2)) (hp : prevB a15 = true) (kk : AW Y R Q (pc + 2) (a0 :: a1 :: a2 :: a3 :: a4 :: a5 :: a6 :: a7 :: a8 :: a9 :: a10 :: a11 :: a12 :: a13 :: a14 :: a15 :: some .null :: t) st M cs ss) : AW Y R Q pc (a0 :: a1 :: a2 :: a3 :: a4 :: a5 :: a6 :: a7 :: a8 :: a9 :: a10 :: a11 :: a12 :: a13 :: a14 :: a15 :: a16 :: t) (.null :: st) M cs ss := by
  intro x p e s m args below meth c H locs la hC hR hL hq
  have hn : 16 < Y.2.2.1 := by rw [← hL.1]; simp only [List.length_cons]; omega
  refine lv_astoreN (lv := prs x (a0 :: a1 :: a2 :: a3 :: a4 :: a5 :: a6 :: a7 :: a8 :: a9 :: a10 :: a11 :: a12 :: a13 :: a14 :: a15 :: a16 :: t)) hC.1 hC.2.1 hd hL.has hn rfl (fun la2 hl2 => ?_)
  exact kk x p e s m args below meth c H locs la2 hC hR (LV0.set1 (v := .null) hL.1 hn (fun j w h hj => by
      have hj1 : j = 15 := by omega
      subst hj1
      exact prevB_ok hp (Option.some.inj hj)) hl2) hq
theorem aw_lstore16 (pc : Nat) {a0 a1 a2 a3 a4 a5 a6 a7 a8 a9 a10 a11 a12 a13 a14 a15 a16 a17 : Option Value} {t : List (Option Value)} {v : Int64} (hd : decode Y.2.1 pc = .ok (.lstore 16, 2)) (hp : prevB a15 = true) (kk : AW Y R Q (pc + 2) (a0 :: a1 :: a2 :: a3 :: a4 :: a5 :: a6 :: a7 :: a8 :: a9 :: a10 :: a11 :: a12 :: a13 :: a14 :: a15 :: some (.long v) :: none :: t) st M cs ss) : AW Y R Q pc (a0 :: a1 :: a2 :: a3 :: a4 :: a5 :: a6 :: a7 :: a8 :: a9 :: a10 :: a11 :: a12 :: a13 :: a14 :: a15 :: a16 :: a17 :: t) (.long v :: st) M cs ss := by
  intro x p e s m args below meth c H locs la hC hR hL hq
  have hn : 16 + 1 < Y.2.2.1 := by rw [← hL.1]; simp only [List.length_cons]; omega
  refine lv_lstore (lv := prs x (a0 :: a1 :: a2 :: a3 :: a4 :: a5 :: a6 :: a7 :: a8 :: a9 :: a10 :: a11 :: a12 :: a13 :: a14 :: a15 :: a16 :: a17 :: t)) hC.1 hC.2.1 hd hL.has hn rfl (fun la2 hl2 => ?_)
  exact kk x p e s m args below meth c H locs la2 hC hR (LV0.set2 (v := .long v) hL.1 hn (fun j w h hj => by
      have hj1 : j = 15 := by omega
      subst hj1
      exact prevB_ok hp (Option.some.inj hj)) hl2) hq
theorem aw_iinc16 (pc : Nat) {a0 a1 a2 a3 a4 a5 a6 a7 a8 a9 a10 a11 a12 a13 a14 a15 : Option Value} {t : List (Option Value)} {n : Int} {u : Int32} (v : Int32) (hd : decode Y.2.1 pc = .ok (.iinc 16 n, 3)) (hv : u + Int32.ofInt n = v) (hp : prevB a15 = true) (kk : AW Y R Q (pc + 3) (a0 :: a1 :: a2 :: a3 :: a4 :: a5 :: a6 :: a7 :: a8 :: a9 :: a10 :: a11 :: a12 :: a13 :: a14 :: a15 :: some (.int v) :: t) st M cs ss) : AW Y R Q pc (a0 :: a1 :: a2 :: a3 :: a4 :: a5 :: a6 :: a7 :: a8 :: a9 :: a10 :: a11 :: a12 :: a13 :: a14 :: a15 :: some (.int u) :: t) st M cs ss := by
  intro x p e s m args below meth c H locs la hC hR hL hq
  have hn : 16 < Y.2.2.1 := by rw [← hL.1]; simp only [List.length_cons]; omega
  obtain ⟨z, hz⟩ := List.getElem?_of_mem (prs_mem (x := x) (ls := a0 :: a1 :: a2 :: a3 :: a4 :: a5 :: a6 :: a7 :: a8 :: a9 :: a10 :: a11 :: a12 :: a13 :: a14 :: a15 :: some (.int u) :: t) (i := 16) (v := .int u) rfl)
  refine lv_iinc (lv := prs x (a0 :: a1 :: a2 :: a3 :: a4 :: a5 :: a6 :: a7 :: a8 :: a9 :: a10 :: a11 :: a12 :: a13 :: a14 :: a15 :: some (.int u) :: t)) (k := z) (x := u) (v := v) hC.1 hC.2.1 hd hL.has hz hv hn rfl (fun la2 hl2 => ?_)
  exact kk x p e s m args below meth c H locs la2 hC hR (LV0.set1 (v := .int v) hL.1 hn (fun j w h hj => by
      have hj1 : j = 15 := by omega
      subst hj1
      exact prevB_ok hp (Option.some.inj hj)) hl2) hq
theorem aw_drop16 {pc : Nat} {a0 a1 a2 a3 a4 a5 a6 a7 a8 a9 a10 a11 a12 a13 a14 a15 a16 : Option Value} {t : List (Option Value)} (kk : AW Y R Q pc (a0 :: a1 :: a2 :: a3 :: a4 :: a5 :: a6 :: a7 :: a8 :: a9 :: a10 :: a11 :: a12 :: a13 :: a14 :: a15 :: none :: t) st M cs ss) : AW Y R Q pc (a0 :: a1 :: a2 :: a3 :: a4 :: a5 :: a6 :: a7 :: a8 :: a9 :: a10 :: a11 :: a12 :: a13 :: a14 :: a15 :: a16 :: t) st M cs ss := by
  intro x p e s m args below meth c H locs la hC hR hL hq
  refine kk x p e s m args below meth c H locs la hC hR ⟨by rw [← hL.1]; rfl, hL.2.1, hL.2.2.1, fun i v hi => hL.2.2.2 i v ?_⟩ hq
  by_cases h : i = 16
  · subst h; simp at hi
  · have e1 : (a0 :: a1 :: a2 :: a3 :: a4 :: a5 :: a6 :: a7 :: a8 :: a9 :: a10 :: a11 :: a12 :: a13 :: a14 :: a15 :: none :: t) = (a0 :: a1 :: a2 :: a3 :: a4 :: a5 :: a6 :: a7 :: a8 :: a9 :: a10 :: a11 :: a12 :: a13 :: a14 :: a15 :: a16 :: t).set 16 none := rfl
    rw [e1, List.getElem?_set_ne (Ne.symm h)] at hi
    exact hi
theorem aw_iadd (pc : Nat) {x1 y1 : Int32} (hd : decode Y.2.1 pc = .ok (.iadd, 1)) (kk : AW Y R Q (pc + 1) ls (.int (x1 + y1) :: st) M cs ss) : AW Y R Q pc ls (.int y1 :: .int x1 :: st) M cs ss :=
  fun x p e s m args below meth c H locs la hC hR hL hq => lv_iadd hC.1 hC.2.1 hd (kk x p e s m args below meth c H locs la hC hR hL hq)
theorem aw_isub (pc : Nat) {x1 y1 : Int32} (hd : decode Y.2.1 pc = .ok (.isub, 1)) (kk : AW Y R Q (pc + 1) ls (.int (x1 - y1) :: st) M cs ss) : AW Y R Q pc ls (.int y1 :: .int x1 :: st) M cs ss :=
  fun x p e s m args below meth c H locs la hC hR hL hq => lv_isub hC.1 hC.2.1 hd (kk x p e s m args below meth c H locs la hC hR hL hq)
theorem aw_imul (pc : Nat) {x1 y1 : Int32} (hd : decode Y.2.1 pc = .ok (.imul, 1)) (kk : AW Y R Q (pc + 1) ls (.int (x1 * y1) :: st) M cs ss) : AW Y R Q pc ls (.int y1 :: .int x1 :: st) M cs ss :=
  fun x p e s m args below meth c H locs la hC hR hL hq => lv_imul hC.1 hC.2.1 hd (kk x p e s m args below meth c H locs la hC hR hL hq)
theorem aw_iand (pc : Nat) {x1 y1 : Int32} (hd : decode Y.2.1 pc = .ok (.iand, 1)) (kk : AW Y R Q (pc + 1) ls (.int (x1 &&& y1) :: st) M cs ss) : AW Y R Q pc ls (.int y1 :: .int x1 :: st) M cs ss :=
  fun x p e s m args below meth c H locs la hC hR hL hq => lv_iand hC.1 hC.2.1 hd (kk x p e s m args below meth c H locs la hC hR hL hq)
theorem aw_ior (pc : Nat) {x1 y1 : Int32} (hd : decode Y.2.1 pc = .ok (.ior, 1)) (kk : AW Y R Q (pc + 1) ls (.int (x1 ||| y1) :: st) M cs ss) : AW Y R Q pc ls (.int y1 :: .int x1 :: st) M cs ss :=
  fun x p e s m args below meth c H locs la hC hR hL hq => lv_ior hC.1 hC.2.1 hd (kk x p e s m args below meth c H locs la hC hR hL hq)
theorem aw_ixor (pc : Nat) {x1 y1 : Int32} (hd : decode Y.2.1 pc = .ok (.ixor, 1)) (kk : AW Y R Q (pc + 1) ls (.int (x1 ^^^ y1) :: st) M cs ss) : AW Y R Q pc ls (.int y1 :: .int x1 :: st) M cs ss :=
  fun x p e s m args below meth c H locs la hC hR hL hq => lv_ixor hC.1 hC.2.1 hd (kk x p e s m args below meth c H locs la hC hR hL hq)
theorem aw_ishl (pc : Nat) {x1 y1 : Int32} (hd : decode Y.2.1 pc = .ok (.ishl, 1)) (kk : AW Y R Q (pc + 1) ls (.int (x1 <<< (y1 &&& 31)) :: st) M cs ss) : AW Y R Q pc ls (.int y1 :: .int x1 :: st) M cs ss :=
  fun x p e s m args below meth c H locs la hC hR hL hq => lv_ishl hC.1 hC.2.1 hd (kk x p e s m args below meth c H locs la hC hR hL hq)
theorem aw_ishr (pc : Nat) {x1 y1 : Int32} (hd : decode Y.2.1 pc = .ok (.ishr, 1)) (kk : AW Y R Q (pc + 1) ls (.int (x1 >>> (y1 &&& 31)) :: st) M cs ss) : AW Y R Q pc ls (.int y1 :: .int x1 :: st) M cs ss :=
  fun x p e s m args below meth c H locs la hC hR hL hq => lv_ishr hC.1 hC.2.1 hd (kk x p e s m args below meth c H locs la hC hR hL hq)
theorem aw_idiv (pc : Nat) {x1 y1 : Int32} (hd : decode Y.2.1 pc = .ok (.idiv, 1)) (hne : ¬ y1 = 0) (kk : AW Y R Q (pc + 1) ls (.int (x1 / y1) :: st) M cs ss) : AW Y R Q pc ls (.int y1 :: .int x1 :: st) M cs ss :=
  fun x p e s m args below meth c H locs la hC hR hL hq => lv_idiv hC.1 hC.2.1 hd hne (kk x p e s m args below meth c H locs la hC hR hL hq)
theorem aw_irem (pc : Nat) {x1 y1 : Int32} (hd : decode Y.2.1 pc = .ok (.irem, 1)) (hne : ¬ y1 = 0) (kk : AW Y R Q (pc + 1) ls (.int (x1 - x1 / y1 * y1) :: st) M cs ss) : AW Y R Q pc ls (.int y1 :: .int x1 :: st) M cs ss :=
  fun x p e s m args below meth c H locs la hC hR hL hq => lv_irem hC.1 hC.2.1 hd hne (kk x p e s m args below meth c H locs la hC hR hL hq)
theorem aw_ineg (pc : Nat) {x1 : Int32} (hd : decode Y.2.1 pc = .ok (.ineg, 1)) (kk : AW Y R Q (pc + 1) ls (.int (-x1) :: st) M cs ss) : AW Y R Q pc ls (.int x1 :: st) M cs ss :=
  fun x p e s m args below meth c H locs la hC hR hL hq => lv_ineg hC.1 hC.2.1 hd (kk x p e s m args below meth c H locs la hC hR hL hq)
theorem aw_ladd (pc : Nat) {x1 y1 : Int64} (hd : decode Y.2.1 pc = .ok (.ladd, 1)) (kk : AW Y R Q (pc + 1) ls (.long (x1 + y1) :: st) M cs ss) : AW Y R Q pc ls (.long y1 :: .long x1 :: st) M cs ss :=
  fun x p e s m args below meth c H locs la hC hR hL hq => lv_ladd hC.1 hC.2.1 hd (kk x p e s m args below meth c H locs la hC hR hL hq)
theorem aw_lsub (pc : Nat) {x1 y1 : Int64} (hd : decode Y.2.1 pc = .ok (.lsub, 1)) (kk : AW Y R Q (pc + 1) ls (.long (x1 - y1) :: st) M cs ss) : AW Y R Q pc ls (.long y1 :: .long x1 :: st) M cs ss :=
  fun x p e s m args below meth c H locs la hC hR hL hq => lv_lsub hC.1 hC.2.1 hd (kk x p e s m args below meth c H locs la hC hR hL hq)
theorem aw_lmul (pc : Nat) {x1 y1 : Int64} (hd : decode Y.2.1 pc = .ok (.lmul, 1)) (kk : AW Y R Q (pc + 1) ls (.long (x1 * y1) :: st) M cs ss) : AW Y R Q pc ls (.long y1 :: .long x1 :: st) M cs ss :=
  fun x p e s m args below meth c H locs la hC hR hL hq => lv_lmul hC.1 hC.2.1 hd (kk x p e s m args below meth c H locs la hC hR hL hq)
theorem aw_ldiv (pc : Nat) {x1 y1 : Int64} (hd : decode Y.2.1 pc = .ok (.ldiv, 1)) (hne : ¬ y1 = 0) (kk : AW Y R Q (pc + 1) ls (.long (x1 / y1) :: st) M cs ss) : AW Y R Q pc ls (.long y1 :: .long x1 :: st) M cs ss :=
  fun x p e s m args below meth c H locs la hC hR hL hq => lv_ldiv hC.1 hC.2.1 hd hne (kk x p e s m args below meth c H locs la hC hR hL hq)
theorem aw_lrem (pc : Nat) {x1 y1 : Int64} (hd : decode Y.2.1 pc = .ok (.lrem, 1)) (hne : ¬ y1 = 0) (kk : AW Y R Q (pc + 1) ls (.long (x1 - x1 / y1 * y1) :: st) M cs ss) : AW Y R Q pc ls (.long y1 :: .long x1 :: st) M cs ss :=
  fun x p e s m args below meth c H locs la hC hR hL hq => lv_lrem hC.1 hC.2.1 hd hne (kk x p e s m args below meth c H locs la hC hR hL hq)
theorem aw_lcmp (pc : Nat) {x1 y1 : Int64} (hd : decode Y.2.1 pc = .ok (.lcmp, 1)) (kk : AW Y R Q (pc + 1) ls (.int (lg_cmp x1 y1) :: st) M cs ss) : AW Y R Q pc ls (.long y1 :: .long x1 :: st) M cs ss :=
  fun x p e s m args below meth c H locs la hC hR hL hq => W.lcmp hC.1 hC.2.1 hd (kk x p e s m args below meth c H locs la hC hR hL hq)
theorem aw_i2l (pc : Nat) {x1 : Int32} (hd : decode Y.2.1 pc = .ok (.i2l, 1)) (kk : AW Y R Q (pc + 1) ls (.long x1.toInt64 :: st) M cs ss) : AW Y R Q pc ls (.int x1 :: st) M cs ss :=
  fun x p e s m args below meth c H locs la hC hR hL hq => lv_i2l hC.1 hC.2.1 hd rfl (kk x p e s m args below meth c H locs la hC hR hL hq)
theorem aw_l2i (pc : Nat) {x1 : Int64} (hd : decode Y.2.1 pc = .ok (.l2i, 1)) (kk : AW Y R Q (pc + 1) ls (.int x1.toInt32 :: st) M cs ss) : AW Y R Q pc ls (.long x1 :: st) M cs ss :=
  fun x p e s m args below meth c H locs la hC hR hL hq => lv_l2i hC.1 hC.2.1 hd rfl (kk x p e s m args below meth c H locs la hC hR hL hq)
theorem aw_i2b (pc : Nat) {x1 : Int32} (hd : decode Y.2.1 pc = .ok (.i2b, 1)) (kk : AW Y R Q (pc + 1) ls (.int x1.toInt8.toInt32 :: st) M cs ss) : AW Y R Q pc ls (.int x1 :: st) M cs ss :=
  fun x p e s m args below meth c H locs la hC hR hL hq => lv_i2b hC.1 hC.2.1 hd rfl (kk x p e s m args below meth c H locs la hC hR hL hq)
theorem aw_i2s (pc : Nat) {x1 : Int32} (hd : decode Y.2.1 pc = .ok (.i2s, 1)) (kk : AW Y R Q (pc + 1) ls (.int x1.toInt16.toInt32 :: st) M cs ss) : AW Y R Q pc ls (.int x1 :: st) M cs ss :=
  fun x p e s m args below meth c H locs la hC hR hL hq => lv_i2s hC.1 hC.2.1 hd rfl (kk x p e s m args below meth c H locs la hC hR hL hq)
theorem aw_lshl (pc : Nat) {x1 : Int64} {y1 : Int32} (hd : decode Y.2.1 pc = .ok (.lshl, 1)) (kk : AW Y R Q (pc + 1) ls (.long (x1 <<< (y1.toInt64 &&& 63)) :: st) M cs ss) : AW Y R Q pc ls (.int y1 :: .long x1 :: st) M cs ss :=
  fun x p e s m args below meth c H locs la hC hR hL hq => lv_lshl hC.1 hC.2.1 hd rfl (kk x p e s m args below meth c H locs la hC hR hL hq)
theorem aw_dup (pc : Nat) {v : Value} (hd : decode Y.2.1 pc = .ok (.dup, 1)) (hv : v.category = 1) (kk : AW Y R Q (pc + 1) ls (v :: v :: st) M cs ss) : AW Y R Q pc ls (v :: st) M cs ss :=
  fun x p e s m args below meth c H locs la hC hR hL hq => lv_dup hC.1 hC.2.1 hd ((cv_cat x v).trans hv) (kk x p e s m args below meth c H locs la hC hR hL hq)
theorem aw_pop (pc : Nat) {v : Value} (hd : decode Y.2.1 pc = .ok (.pop, 1)) (hv : v.category = 1) (kk : AW Y R Q (pc + 1) ls (st) M cs ss) : AW Y R Q pc ls (v :: st) M cs ss :=
  fun x p e s m args below meth c H locs la hC hR hL hq => lv_pop hC.1 hC.2.1 hd ((cv_cat x v).trans hv) (kk x p e s m args below meth c H locs la hC hR hL hq)
theorem aw_dup_x1 (pc : Nat) {v u : Value} (hd : decode Y.2.1 pc = .ok (.dup_x1, 1)) (hv : v.category = 1) (hu : u.category = 1) (kk : AW Y R Q (pc + 1) ls (v :: u :: v :: st) M cs ss) : AW Y R Q pc ls (v :: u :: st) M cs ss :=
  fun x p e s m args below meth c H locs la hC hR hL hq => lv_dup_x1 hC.1 hC.2.1 hd ((cv_cat x v).trans hv) ((cv_cat x u).trans hu) (kk x p e s m args below meth c H locs la hC hR hL hq)
theorem aw_icmp_eq (pc tgt : Nat) {x1 y1 : Int32} {off : Int} (hd : decode Y.2.1 pc = .ok (.if_icmp .eq off, 3)) (ht : (pc : Int) + off = (tgt : Int)) (kt : x1 = y1 → AW Y R Q tgt ls st M cs ss) (kf : ¬ x1 = y1 → AW Y R Q (pc + 3) ls st M cs ss) : AW Y R Q pc ls (.int y1 :: .int x1 :: st) M cs ss :=
  fun x p e s m args below meth c H locs la hC hR hL hq => lv_icmp_eq hC.1 hC.2.1 hd ht (fun h => kt h x p e s m args below meth c H locs la hC hR hL hq) (fun h => kf h x p e s m args below meth c H locs la hC hR hL hq)
theorem aw_if_eq (pc tgt : Nat) {x1 : Int32} {off : Int} (hd : decode Y.2.1 pc = .ok (.ifCond .eq off, 3)) (ht : (pc : Int) + off = (tgt : Int)) (kt : x1 = 0 → AW Y R Q tgt ls st M cs ss) (kf : ¬ x1 = 0 → AW Y R Q (pc + 3) ls st M cs ss) : AW Y R Q pc ls (.int x1 :: st) M cs ss :=
  fun x p e s m args below meth c H locs la hC hR hL hq => lv_if_eq hC.1 hC.2.1 hd ht (fun h => kt h x p e s m args below meth c H locs la hC hR hL hq) (fun h => kf h x p e s m args below meth c H locs la hC hR hL hq)
theorem aw_icmp_ne (pc tgt : Nat) {x1 y1 : Int32} {off : Int} (hd : decode Y.2.1 pc = .ok (.if_icmp .ne off, 3)) (ht : (pc : Int) + off = (tgt : Int)) (kt : ¬ x1 = y1 → AW Y R Q tgt ls st M cs ss) (kf : x1 = y1 → AW Y R Q (pc + 3) ls st M cs ss) : AW Y R Q pc ls (.int y1 :: .int x1 :: st) M cs ss :=
  fun x p e s m args below meth c H locs la hC hR hL hq => lv_icmp_ne hC.1 hC.2.1 hd ht (fun h => kt h x p e s m args below meth c H locs la hC hR hL hq) (fun h => kf h x p e s m args below meth c H locs la hC hR hL hq)
theorem aw_if_ne (pc tgt : Nat) {x1 : Int32} {off : Int} (hd : decode Y.2.1 pc = .ok (.ifCond .ne off, 3)) (ht : (pc : Int) + off = (tgt : Int)) (kt : ¬ x1 = 0 → AW Y R Q tgt ls st M cs ss) (kf : x1 = 0 → AW Y R Q (pc + 3) ls st M cs ss) : AW Y R Q pc ls (.int x1 :: st) M cs ss :=
  fun x p e s m args below meth c H locs la hC hR hL hq => lv_if_ne hC.1 hC.2.1 hd ht (fun h => kt h x p e s m args below meth c H locs la hC hR hL hq) (fun h => kf h x p e s m args below meth c H locs la hC hR hL hq)
theorem aw_icmp_lt (pc tgt : Nat) {x1 y1 : Int32} {off : Int} (hd : decode Y.2.1 pc = .ok (.if_icmp .lt off, 3)) (ht : (pc : Int) + off = (tgt : Int)) (kt : x1 < y1 → AW Y R Q tgt ls st M cs ss) (kf : ¬ x1 < y1 → AW Y R Q (pc + 3) ls st M cs ss) : AW Y R Q pc ls (.int y1 :: .int x1 :: st) M cs ss :=
  fun x p e s m args below meth c H locs la hC hR hL hq => lv_icmp_lt hC.1 hC.2.1 hd ht (fun h => kt h x p e s m args below meth c H locs la hC hR hL hq) (fun h => kf h x p e s m args below meth c H locs la hC hR hL hq)
theorem aw_if_lt (pc tgt : Nat) {x1 : Int32} {off : Int} (hd : decode Y.2.1 pc = .ok (.ifCond .lt off, 3)) (ht : (pc : Int) + off = (tgt : Int)) (kt : x1 < 0 → AW Y R Q tgt ls st M cs ss) (kf : ¬ x1 < 0 → AW Y R Q (pc + 3) ls st M cs ss) : AW Y R Q pc ls (.int x1 :: st) M cs ss :=
  fun x p e s m args below meth c H locs la hC hR hL hq => lv_if_lt hC.1 hC.2.1 hd ht (fun h => kt h x p e s m args below meth c H locs la hC hR hL hq) (fun h => kf h x p e s m args below meth c H locs la hC hR hL hq)
theorem aw_icmp_ge (pc tgt : Nat) {x1 y1 : Int32} {off : Int} (hd : decode Y.2.1 pc = .ok (.if_icmp .ge off, 3)) (ht : (pc : Int) + off = (tgt : Int)) (kt : y1 ≤ x1 → AW Y R Q tgt ls st M cs ss) (kf : ¬ y1 ≤ x1 → AW Y R Q (pc + 3) ls st M cs ss) : AW Y R Q pc ls (.int y1 :: .int x1 :: st) M cs ss :=
  fun x p e s m args below meth c H locs la hC hR hL hq => lv_icmp_ge hC.1 hC.2.1 hd ht (fun h => kt h x p e s m args below meth c H locs la hC hR hL hq) (fun h => kf h x p e s m args below meth c H locs la hC hR hL hq)
theorem aw_if_ge (pc tgt : Nat) {x1 : Int32} {off : Int} (hd : decode Y.2.1 pc = .ok (.ifCond .ge off, 3)) (ht : (pc : Int) + off = (tgt : Int)) (kt : 0 ≤ x1 → AW Y R Q tgt ls st M cs ss) (kf : ¬ 0 ≤ x1 → AW Y R Q (pc + 3) ls st M cs ss) : AW Y R Q pc ls (.int x1 :: st) M cs ss :=
  fun x p e s m args below meth c H locs la hC hR hL hq => lv_if_ge hC.1 hC.2.1 hd ht (fun h => kt h x p e s m args below meth c H locs la hC hR hL hq) (fun h => kf h x p e s m args below meth c H locs la hC hR hL hq)
theorem aw_icmp_gt (pc tgt : Nat) {x1 y1 : Int32} {off : Int} (hd : decode Y.2.1 pc = .ok (.if_icmp .gt off, 3)) (ht : (pc : Int) + off = (tgt : Int)) (kt : y1 < x1 → AW Y R Q tgt ls st M cs ss) (kf : ¬ y1 < x1 → AW Y R Q (pc + 3) ls st M cs ss) : AW Y R Q pc ls (.int y1 :: .int x1 :: st) M cs ss :=
  fun x p e s m args below meth c H locs la hC hR hL hq => lv_icmp_gt hC.1 hC.2.1 hd ht (fun h => kt h x p e s m args below meth c H locs la hC hR hL hq) (fun h => kf h x p e s m args below meth c H locs la hC hR hL hq)
theorem aw_if_gt (pc tgt : Nat) {x1 : Int32} {off : Int} (hd : decode Y.2.1 pc = .ok (.ifCond .gt off, 3)) (ht : (pc : Int) + off = (tgt : Int)) (kt : 0 < x1 → AW Y R Q tgt ls st M cs ss) (kf : ¬ 0 < x1 → AW Y R Q (pc + 3) ls st M cs ss) : AW Y R Q pc ls (.int x1 :: st) M cs ss :=
  fun x p e s m args below meth c H locs la hC hR hL hq => lv_if_gt hC.1 hC.2.1 hd ht (fun h => kt h x p e s m args below meth c H locs la hC hR hL hq) (fun h => kf h x p e s m args below meth c H locs la hC hR hL hq)
theorem aw_icmp_le (pc tgt : Nat) {x1 y1 : Int32} {off : Int} (hd : decode Y.2.1 pc = .ok (.if_icmp .le off, 3)) (ht : (pc : Int) + off = (tgt : Int)) (kt : x1 ≤ y1 → AW Y R Q tgt ls st M cs ss) (kf : ¬ x1 ≤ y1 → AW Y R Q (pc + 3) ls st M cs ss) : AW Y R Q pc ls (.int y1 :: .int x1 :: st) M cs ss :=
  fun x p e s m args below meth c H locs la hC hR hL hq => lv_icmp_le hC.1 hC.2.1 hd ht (fun h => kt h x p e s m args below meth c H locs la hC hR hL hq) (fun h => kf h x p e s m args below meth c H locs la hC hR hL hq)
theorem aw_if_le (pc tgt : Nat) {x1 : Int32} {off : Int} (hd : decode Y.2.1 pc = .ok (.ifCond .le off, 3)) (ht : (pc : Int) + off = (tgt : Int)) (kt : x1 ≤ 0 → AW Y R Q tgt ls st M cs ss) (kf : ¬ x1 ≤ 0 → AW Y R Q (pc + 3) ls st M cs ss) : AW Y R Q pc ls (.int x1 :: st) M cs ss :=
  fun x p e s m args below meth c H locs la hC hR hL hq => lv_if_le hC.1 hC.2.1 hd ht (fun h => kt h x p e s m args below meth c H locs la hC hR hL hq) (fun h => kf h x p e s m args below meth c H locs la hC hR hL hq)
theorem aw_goto (pc tgt : Nat) {off : Int} (hd : decode Y.2.1 pc = .ok (.goto off, 3)) (ht : (pc : Int) + off = (tgt : Int)) (kk : AW Y R Q tgt ls st M cs ss) : AW Y R Q pc ls st M cs ss :=
  fun x p e s m args below meth c H locs la hC hR hL hq => lv_goto hC.1 hC.2.1 hd ht (kk x p e s m args below meth c H locs la hC hR hL hq)
theorem aw_ifnull (pc : Nat) {a : Nat} {off : Int} (hd : decode Y.2.1 pc = .ok (.ifnull off, 3)) (kk : AW Y R Q (pc + 3) ls st M cs ss) : AW Y R Q pc ls (.ref a :: st) M cs ss :=
  fun x p e s m args below meth c H locs la hC hR hL hq => lv_ifnull hC.1 hC.2.1 hd (kk x p e s m args below meth c H locs la hC hR hL hq)
theorem aw_ifnonnull (pc tgt : Nat) {a : Nat} {off : Int} (hd : decode Y.2.1 pc = .ok (.ifnonnull off, 3)) (ht : (pc : Int) + off = (tgt : Int)) (kk : AW Y R Q tgt ls st M cs ss) : AW Y R Q pc ls (.ref a :: st) M cs ss :=
  fun x p e s m args below meth c H locs la hC hR hL hq => lv_ifnonnull hC.1 hC.2.1 hd ht (kk x p e s m args below meth c H locs la hC hR hL hq)
theorem aw_ifnullN (pc tgt : Nat) {off : Int} (hd : decode Y.2.1 pc = .ok (.ifnull off, 3)) (ht : (pc : Int) + off = (tgt : Int)) (kk : AW Y R Q tgt ls st M cs ss) : AW Y R Q pc ls (.null :: st) M cs ss :=
  fun x p e s m args below meth c H locs la hC hR hL hq => lv_ifnullN hC.1 hC.2.1 hd ht (kk x p e s m args below meth c H locs la hC hR hL hq)
theorem aw_ifnonnullN (pc : Nat) {off : Int} (hd : decode Y.2.1 pc = .ok (.ifnonnull off, 3)) (kk : AW Y R Q (pc + 3) ls st M cs ss) : AW Y R Q pc ls (.null :: st) M cs ss :=
  fun x p e s m args below meth c H locs la hC hR hL hq => lv_ifnonnullN hC.1 hC.2.1 hd (kk x p e s m args below meth c H locs la hC hR hL hq)
theorem aw_tabOut (pc tgt : Nat) {dflt lo hi : Int} {offs : Array Int} {len : Nat} {x1 : Int32} (hd : decode Y.2.1 pc = .ok (.tableswitch dflt lo hi offs, len)) (h : x1.toInt < lo ∨ hi < x1.toInt) (ht : (pc : Int) + dflt = (tgt : Int)) (kk : AW Y R Q tgt ls st M cs ss) : AW Y R Q pc ls (.int x1 :: st) M cs ss :=
  fun x p e s m args below meth c H locs la hC hR hL hq => lv_tableOut hC.1 hC.2.1 hd h ht (kk x p e s m args below meth c H locs la hC hR hL hq)
theorem aw_tabIn (pc tgt : Nat) {dflt lo hi : Int} {offs : Array Int} {len : Nat} {x1 : Int32} {off : Int} (hd : decode Y.2.1 pc = .ok (.tableswitch dflt lo hi offs, len)) (h1 : ¬ x1.toInt < lo) (h2 : ¬ hi < x1.toInt) (ho : offs[(x1.toInt - lo).toNat]? = some off) (ht : (pc : Int) + off = (tgt : Int)) (kk : AW Y R Q tgt ls st M cs ss) : AW Y R Q pc ls (.int x1 :: st) M cs ss :=
  fun x p e s m args below meth c H locs la hC hR hL hq => lv_tableIn hC.1 hC.2.1 hd h1 h2 ho ht (kk x p e s m args below meth c H locs la hC hR hL hq)
theorem aw_lookup (pc tgt : Nat) {dflt : Int} {ps : Array (Int × Int)} {len : Nat} {x1 : Int32} {off : Int} (hd : decode Y.2.1 pc = .ok (.lookupswitch dflt ps, len)) (hp : (ps.toList.zip (ps.toList.drop 1)).all (fun (a, next) => a.1 < next.1) = true) (ho : Op.lookupswitch.offset ps.toList dflt x1.toInt = off) (ht : (pc : Int) + off = (tgt : Int)) (kk : AW Y R Q tgt ls st M cs ss) : AW Y R Q pc ls (.int x1 :: st) M cs ss :=
  fun x p e s m args below meth c H locs la hC hR hL hq => lv_lookup hC.1 hC.2.1 hd hp ho ht (kk x p e s m args below meth c H locs la hC hR hL hq)
theorem aw_st {pc : Nat} {st2 : List Value} (h : st = st2) (kk : AW Y R Q pc ls st2 M cs ss) : AW Y R Q pc ls st M cs ss := h ▸ kk
theorem aw_cs {pc cs2 ss2 : Nat} (h1 : cs ≤ cs2) (h2 : ss ≤ ss2) (kk : AW Y R Q pc ls st M cs2 ss2) : AW Y R Q pc ls st M cs ss :=
  fun x p e s m args below meth c H locs la hC hR hL hq => W.widen h1 h2 (kk x p e s m args below meth c H locs la hC hR hL hq)
theorem aw_mono {pc : Nat} {Q2 : Option Value → Mem → Prop} (h : ∀ r N, Q2 r N → Q r N) (kk : AW Y R Q2 pc ls st M cs ss) : AW Y R Q pc ls st M cs ss := by
  intro x p e s m args below meth c H locs la hC hR hL hq T hT X
  obtain ⟨t, h1, o, h2, h3, ⟨r, N, h4, h5, h6⟩, h7⟩ := kk x p e s m args below meth c H locs la hC hR hL hq T hT X
  exact ⟨t, h1, o, h2, h3, ⟨r, N, h4, h r N h5, h6⟩, h7⟩
theorem am_mono {rm : Room} {as : List Value} {Q2 : Option Value → Mem → Prop} (h : ∀ r N, Q2 r N → Q r N) (kk : AM Y rm as M Q2) : AM Y rm as M Q := by
  intro x p e ha hc hk s m args below hf hsp hP hK
  obtain ⟨k, o, h1, h2, h3, ⟨r, N, h4, h5, h6⟩, h7⟩ := kk x p e ha hc hk s m args below hf hsp hP hK
  exact ⟨k, o, h1, h2, h3, ⟨r, N, h4, h r N h5, h6⟩, h7⟩
theorem aw_iret (pc : Nat) {v : Int32} (hd : decode Y.2.1 pc = .ok (.ireturn, 1)) (hr : Y.2.2.2 = some .int) (hc : cs ≤ R.cells) (hs : ss ≤ R.slots) (hQ : Q (some (.int v)) M) : AW Y R Q pc ls (.int v :: []) M cs ss :=
  fun x p e s m args below meth c H locs la hC hR hL hq => W.widen hc hs (W.iret hC.1 hC.2.1 (hC.2.2.2.1.trans hr) (fun t ht _ => ⟨some (.int v), M, rfl, hQ, ht ▸ hR⟩) hq hd hC.2.2.2.2.2.2.1)
theorem aw_zret (pc : Nat) {v : Int32} (hd : decode Y.2.1 pc = .ok (.ireturn, 1)) (hr : Y.2.2.2 = some .boolean) (hn : narrow .boolean (.int v) = .int v) (hc : cs ≤ R.cells) (hs : ss ≤ R.slots) (hQ : Q (some (.int v)) M) : AW Y R Q pc ls (.int v :: []) M cs ss :=
  fun x p e s m args below meth c H locs la hC hR hL hq => W.widen hc hs (W.zret hC.1 hC.2.1 (hC.2.2.2.1.trans hr) hn (fun t ht _ => ⟨some (.int v), M, rfl, hQ, ht ▸ hR⟩) hq hd hC.2.2.2.2.2.2.1)
theorem aw_lret (pc : Nat) {v : Int64} (hd : decode Y.2.1 pc = .ok (.lreturn, 1)) (hr : Y.2.2.2 = some .long) (hc : cs ≤ R.cells) (hs : ss ≤ R.slots) (hQ : Q (some (.long v)) M) : AW Y R Q pc ls (.long v :: []) M cs ss :=
  fun x p e s m args below meth c H locs la hC hR hL hq => W.widen hc hs (W.lret hC.1 hC.2.1 (hC.2.2.2.1.trans hr) (fun t ht _ => ⟨some (.long v), M, rfl, hQ, ht ▸ hR⟩) hq hd hC.2.2.2.2.2.2.1)
theorem aw_vret (pc : Nat) (hd : decode Y.2.1 pc = .ok (.return_, 1)) (hr : Y.2.2.2 = none) (hc : cs ≤ R.cells) (hs : ss ≤ R.slots) (hQ : Q none M) : AW Y R Q pc ls [] M cs ss :=
  fun x p e s m args below meth c H locs la hC hR hL hq => W.widen hc hs (W.vret hC.1 hC.2.1 (hC.2.2.2.1.trans hr) (fun t ht _ => ⟨none, M, rfl, hQ, ht ▸ hR⟩) hq hd hC.2.2.2.2.2.2.1)
theorem aw_aret (pc : Nat) {v : Nat} {rt : FieldType} (hd : decode Y.2.1 pc = .ok (.areturn, 1)) (hr : Y.2.2.2 = some rt) (hrt : (∃ n, rt = .object n) ∨ ∃ t, rt = .array t) (hc : cs ≤ R.cells) (hs : ss ≤ R.slots) (hQ : Q (some (.ref v)) M) : AW Y R Q pc ls (.ref v :: []) M cs ss :=
  fun x p e s m args below meth c H locs la hC hR hL hq => W.widen hc hs (W.aret hC.1 hC.2.1 (hC.2.2.2.1.trans hr) hrt (Or.inr ⟨_, rfl⟩) (fun t ht _ => ⟨some (.ref v), M, rfl, hQ, ht ▸ hR⟩) hq hd hC.2.2.2.2.2.2.1)
theorem aw_aretN (pc : Nat) {rt : FieldType} (hd : decode Y.2.1 pc = .ok (.areturn, 1)) (hr : Y.2.2.2 = some rt) (hrt : (∃ n, rt = .object n) ∨ ∃ t, rt = .array t) (hc : cs ≤ R.cells) (hs : ss ≤ R.slots) (hQ : Q (some .null) M) : AW Y R Q pc ls (.null :: []) M cs ss :=
  fun x p e s m args below meth c H locs la hC hR hL hq => W.widen hc hs (W.aret hC.1 hC.2.1 (hC.2.2.2.1.trans hr) hrt (Or.inl rfl) (fun t ht _ => ⟨some .null, M, rfl, hQ, ht ▸ hR⟩) hq hd hC.2.2.2.2.2.2.1)
end
