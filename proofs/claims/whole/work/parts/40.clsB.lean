/-! the class: lines, acts played back, the way home (gen/clsB.py) -/
theorem NCp.k0 {τ : TT} {α : AT} {M : Mem} {p : Nat} (h : NCp τ α M p) (e : τ 16 p = 0) : NC0 τ α M p := by
  rcases h.2.2 with q | q | q
  · exact q
  · exact absurd (q.1.symm.trans e) (by decide)
  · exact absurd (q.1.symm.trans e) (by decide)
theorem NCp.k1 {τ : TT} {α : AT} {M : Mem} {p : Nat} (h : NCp τ α M p) (e : τ 16 p = 1) : NC1 τ α M p := by
  rcases h.2.2 with q | q | q
  · exact absurd (q.1.symm.trans e) (by decide)
  · exact q
  · exact absurd (q.1.symm.trans e) (by decide)
theorem NCp.k2 {τ : TT} {α : AT} {M : Mem} {p : Nat} (h : NCp τ α M p) (e : τ 16 p = 2) : NC2 τ α M p := by
  rcases h.2.2 with q | q | q
  · exact absurd (q.1.symm.trans e) (by decide)
  · exact absurd (q.1.symm.trans e) (by decide)
  · exact q
theorem CW.kd {τ : TT} {α : AT} {M : Mem} {p : Nat} (h : CW τ α M) (hp : p < nP τ) (hno : ¬ τ 16 p < 0) : τ 16 p = 0 ∨ τ 16 p = 1 ∨ τ 16 p = 2 := by
  rcases (h.nc p hp hno).2.2 with q | q | q
  · exact Or.inl q.1
  · exact Or.inr (Or.inl q.1)
  · exact Or.inr (Or.inr q.1)
theorem CW.ac {τ : TT} {α : AT} {M : Mem} {p : Nat} (hN : NC1 τ α M p) : ∃ l : List (Int32 × Nat), l.length ≤ 5 ∧ (∀ q, q ∈ l → okA q) ∧ τ 21 p = nI l.length ∧ M.2.1 (α 4 p) = (20, l.length) ∧ KA M (α 4 p) l ∧ ∀ u, dH (τ 22) (25 * p) u (dgt (τ 21) p) = dL u l := by
  obtain ⟨-, -, -, -, -, -, -, -, -, l, b1, b2, b3, b4, b5, b6⟩ := hN
  exact ⟨l, b1, b2, b3, b4, b5, fun u => by rw [dgt_n b3 (by omega)]; exact dH_L b6 b2 u⟩
theorem dL_k {l : List (Int32 × Nat)} : ∀ {u u' : HS}, HSk u → (∀ q, q ∈ l → okA q) → dL u l = some u' → HSk u' := by
  induction l with
  | nil => intro u u' h _ e; cases e; exact h
  | cons q l ih =>
    intro u u' h hq e
    rw [dL_cons] at e
    cases hz : stL q u with
    | none => rw [hz] at e; cases e
    | some z => rw [hz] at e; exact ih (stL_ok h (hq q List.mem_cons_self) hz) (fun r hr => hq r (List.mem_cons_of_mem _ hr)) e

def rmX11_line : Room := { frames := 2, cells := 0, slots := 0, locals := 43 }
set_option maxHeartbeats 4000000 in
set_option maxRecDepth 100000 in
theorem n_X11_line {M0 : Mem} {τ : TT} {α : AT} {v w : Int32} (hC : CW τ α M0) (hno : ¬ ir v (nP τ)) : CK mX11_line rmX11_line [.int v, .int w] M0 (.int (-1)) (τ) := by
  refine am_of rfl rfl (ls := [some (.ref 2), some (.int v), some (.int w), none, none]) rfl ?_
  suffices HH : ∀ M, (CW τ α M) → (Kr M0 M) → AW mX11_line rmX11_line (fun r' M' => r' = (some (.int (-1))) ∧ (fun M2 => Kr M0 M2 ∧ ∃ α2, CW (τ) α2 M2) M') 0 [some (.ref 2), some (.int v), some (.int w), none, none] [] M 0 0 from HH M0 hC (Kr.rf _)
  intro M hC hR
  refine aw_aload0 0 dX11_line_0 ?_
  refine aw_iload1 1 dX11_line_1 ?_
  refine cr_v1 2 dX11_line_2 (n_X11_pictureAt hC hno) ckV_RX11_106 cd_X11_pictureAt hC.xo.1 vc11 rfl rfl (Nat.le_of_ble_eq_true rfl) ⟨⟨by decide, by decide⟩, by decide, by decide⟩ rfl ?_
  refine aw_astoreN3 5 dX11_line_5 rfl ?_
  refine aw_aloadN3 6 dX11_line_6 ?_
  refine aw_ifnonnullN 7 dX11_line_7 ?_
  refine aw_icm1 10 dX11_line_10 ?_
  refine aw_iret 11 dX11_line_11 rfl (Nat.zero_le _) (Nat.zero_le _) ?_
  exact ⟨rfl, hR, α, hC⟩

set_option maxHeartbeats 4000000 in
set_option maxRecDepth 100000 in
theorem n2_X11_line {M0 : Mem} {τ : TT} {α : AT} {p : Nat} {w : Int32} (hC : CW τ α M0) (hp : p < nP τ) (hw : ¬ irg w 0 5) : CK mX11_line rmX11_line [.int (nI p), .int w] M0 (.int (-2)) (τ) := by
  refine am_of rfl rfl (ls := [some (.ref 2), some (.int (nI p)), some (.int w), none, none]) rfl ?_
  suffices HH : ∀ M, (CW τ α M) → (Kr M0 M) → AW mX11_line rmX11_line (fun r' M' => r' = (some (.int (-2))) ∧ (fun M2 => Kr M0 M2 ∧ ∃ α2, CW (τ) α2 M2) M') 0 [some (.ref 2), some (.int (nI p)), some (.int w), none, none] [] M 0 0 from HH M0 hC (Kr.rf _)
  intro M hC hR
  refine aw_aload0 0 dX11_line_0 ?_
  refine aw_iload1 1 dX11_line_1 ?_
  refine cr_v1 2 dX11_line_2 (c_X11_pictureAt hC hp) ckV_RX11_106 cd_X11_pictureAt hC.xo.1 vc11 rfl rfl (Nat.le_of_ble_eq_true rfl) ⟨⟨by decide, by decide⟩, by decide, by decide⟩ rfl ?_
  refine aw_astore3 5 dX11_line_5 rfl ?_
  refine aw_aload3 6 dX11_line_6 ?_
  refine aw_ifnonnull 7 12 dX11_line_7 (by decide) ?_
  refine aw_iload2 12 dX11_line_12 ?_
  refine aw_ic0 13 dX11_line_13 ?_
  refine aw_ic5 14 dX11_line_14 ?_
  refine cr_s1 15 dX11_line_15 (cr_sd (c_isInZ (0) (5) (by decide) (by decide))) ckS_RX11_72 cd_X11_isIn rfl (Nat.le_of_ble_eq_true rfl) ⟨⟨by decide, by decide⟩, by decide, by decide⟩ rfl ?_
  refine aw_ifne_b 18 24 dX11_line_18 (by decide) (fun h18 => ?_) (fun h18 => ?_)
  · exact absurd h18 hw
  · refine aw_bipush 21 (-2) dX11_line_21 (by decide) ?_
    refine aw_iret 23 dX11_line_23 rfl (Nat.zero_le _) (Nat.zero_le _) ?_
    exact ⟨rfl, hR, α, hC⟩

set_option maxHeartbeats 4000000 in
set_option maxRecDepth 100000 in
theorem n3_X11_line {M0 : Mem} {τ : TT} {α : AT} {p : Nat} {w : Int32} (hC : CW τ α M0) (hp : p < nP τ) (hw : irg w 0 5) (hno : τ 16 p < 0) : CK mX11_line rmX11_line [.int (nI p), .int w] M0 (.int (-3)) (τ) := by
  refine am_of rfl rfl (ls := [some (.ref 2), some (.int (nI p)), some (.int w), none, none]) rfl ?_
  suffices HH : ∀ M, (CW τ α M) → (Kr M0 M) → AW mX11_line rmX11_line (fun r' M' => r' = (some (.int (-3))) ∧ (fun M2 => Kr M0 M2 ∧ ∃ α2, CW (τ) α2 M2) M') 0 [some (.ref 2), some (.int (nI p)), some (.int w), none, none] [] M 0 0 from HH M0 hC (Kr.rf _)
  intro M hC hR
  refine aw_aload0 0 dX11_line_0 ?_
  refine aw_iload1 1 dX11_line_1 ?_
  refine cr_v1 2 dX11_line_2 (c_X11_pictureAt hC hp) ckV_RX11_106 cd_X11_pictureAt hC.xo.1 vc11 rfl rfl (Nat.le_of_ble_eq_true rfl) ⟨⟨by decide, by decide⟩, by decide, by decide⟩ rfl ?_
  refine aw_astore3 5 dX11_line_5 rfl ?_
  refine aw_aload3 6 dX11_line_6 ?_
  refine aw_ifnonnull 7 12 dX11_line_7 (by decide) ?_
  refine aw_iload2 12 dX11_line_12 ?_
  refine aw_ic0 13 dX11_line_13 ?_
  refine aw_ic5 14 dX11_line_14 ?_
  refine cr_s1 15 dX11_line_15 (cr_sd (c_isInZ (0) (5) (by decide) (by decide))) ckS_RX11_72 cd_X11_isIn rfl (Nat.le_of_ble_eq_true rfl) ⟨⟨by decide, by decide⟩, by decide, by decide⟩ rfl ?_
  refine aw_ifne_b 18 24 dX11_line_18 (by decide) (fun h18 => ?_) (fun h18 => ?_)
  · refine aw_aload3 24 dX11_line_24 ?_
    refine aw_get 25 dX11_line_25 ckF_RX11_147_3 (hC.pc p hp).2.2.2.1 ((hC.pc p hp).2.2.2.2.2.2.2.2.1.trans (if_pos hno)) ?_
    refine aw_astoreN4 28 dX11_line_28 rfl ?_
    refine aw_aloadN4 30 dX11_line_30 ?_
    refine aw_ifnonnullN 32 dX11_line_32 ?_
    refine aw_bipush 35 (-3) dX11_line_35 (by decide) ?_
    refine aw_iret 37 dX11_line_37 rfl (Nat.zero_le _) (Nat.zero_le _) ?_
    exact ⟨rfl, hR, α, hC⟩
  · exact absurd hw h18

set_option maxHeartbeats 4000000 in
set_option maxRecDepth 100000 in
theorem c0_X11_line {M0 : Mem} {τ : TT} {α : AT} {p : Nat} {w : Int32} (hC : CW τ α M0) (hp : p < nP τ) (hw : irg w 0 5) (hN : NC0 τ α M0 p) : CK mX11_line rmX11_line [.int (nI p), .int w] M0 (.int (sLn τ p w)) (τ) := by
  refine am_of rfl rfl (ls := [some (.ref 2), some (.int (nI p)), some (.int w), none, none]) rfl ?_
  suffices HH : ∀ M, (CW τ α M) → (Kr M0 M) → (NC0 τ α M p) → AW mX11_line rmX11_line (fun r' M' => r' = (some (.int (sLn τ p w))) ∧ (fun M2 => Kr M0 M2 ∧ ∃ α2, CW (τ) α2 M2) M') 0 [some (.ref 2), some (.int (nI p)), some (.int w), none, none] [] M 0 0 from HH M0 hC (Kr.rf _) hN
  intro M hC hR hN
  have hno : ¬ τ 16 p < 0 := by rw [hN.1]; decide
  have hln := hC.ln hp hno
  refine aw_aload0 0 dX11_line_0 ?_
  refine aw_iload1 1 dX11_line_1 ?_
  refine cr_v1 2 dX11_line_2 (c_X11_pictureAt hC hp) ckV_RX11_106 cd_X11_pictureAt hC.xo.1 vc11 rfl rfl (Nat.le_of_ble_eq_true rfl) ⟨⟨by decide, by decide⟩, by decide, by decide⟩ rfl ?_
  refine aw_astore3 5 dX11_line_5 rfl ?_
  refine aw_aload3 6 dX11_line_6 ?_
  refine aw_ifnonnull 7 12 dX11_line_7 (by decide) ?_
  refine aw_iload2 12 dX11_line_12 ?_
  refine aw_ic0 13 dX11_line_13 ?_
  refine aw_ic5 14 dX11_line_14 ?_
  refine cr_s1 15 dX11_line_15 (cr_sd (c_isInZ (0) (5) (by decide) (by decide))) ckS_RX11_72 cd_X11_isIn rfl (Nat.le_of_ble_eq_true rfl) ⟨⟨by decide, by decide⟩, by decide, by decide⟩ rfl ?_
  refine aw_ifne_b 18 24 dX11_line_18 (by decide) (fun h18 => ?_) (fun h18 => ?_)
  · refine aw_aload3 24 dX11_line_24 ?_
    refine aw_get 25 dX11_line_25 ckF_RX11_147_3 (hC.pc p hp).2.2.2.1 ((hC.pc p hp).2.2.2.2.2.2.2.2.1.trans (if_neg hno)) ?_
    refine aw_astore4 28 dX11_line_28 rfl ?_
    refine aw_aload4 30 dX11_line_30 ?_
    refine aw_ifnonnull 32 38 dX11_line_32 (by decide) ?_
    refine aw_iload2 38 dX11_line_38 ?_
    by_cases hs0 : w = 0
    · subst hs0
      refine aw_tabIn 39 72 dX11_line_39 (by decide) (by decide) rfl (by decide) ?_
      refine aw_aload4 72 dX11_line_72 ?_
      refine cr_u1 (rr := (RX7, TX7, 3)) (owner := RX7) (y := ⟨RX7, "kind", "()I"⟩) 74 dX11_line_74 c_X7_kind ckU_RX11_199_7 cd_X7_kind cd_X7_kind hN.2.1 vc7 rfl (Nat.le_of_ble_eq_true rfl) ⟨⟨by decide, by decide⟩, by decide, by decide⟩ rfl ?_
      refine aw_iret 77 dX11_line_77 rfl (Nat.zero_le _) (Nat.zero_le _) ?_
      refine ⟨?_, hR, α, hC⟩
      unfold sLn
      rw [if_pos hw, if_neg hno]
      first
        | (rw [if_pos rfl, hN.1]; done)
        | (rw [if_neg (by decide), if_pos rfl, ← hln.2.1]; done)
        | (rw [if_neg (by decide), if_neg (by decide), if_pos rfl]; done)
        | (rw [if_neg (by decide), if_neg (by decide), if_neg (by decide), if_pos rfl]; done)
        | (rw [if_neg (by decide), if_neg (by decide), if_neg (by decide), if_neg (by decide), if_pos rfl, hN.2.2.2.2.2.1]; done)
        | (rw [if_neg hs0, if_neg hs1, if_neg hs2, if_neg hs3, if_neg hs4, hN.2.2.2.2.2.2]; first | done | rfl)
    by_cases hs1 : w = 1
    · subst hs1
      refine aw_tabIn 39 78 dX11_line_39 (by decide) (by decide) rfl (by decide) ?_
      refine aw_aload4 78 dX11_line_78 ?_
      refine aw_get 80 dX11_line_80 ckF_RX11_202_7 hN.2.1 hN.2.2.1 ?_
      refine aw_get 83 dX11_line_83 ckF_RX11_206_1 (hC.lc (dgt (τ 17) p) hln.1).2.2.2.1 (hC.lc (dgt (τ 17) p) hln.1).2.2.2.2.1 ?_
      refine aw_iret 86 dX11_line_86 rfl (Nat.zero_le _) (Nat.zero_le _) ?_
      refine ⟨?_, hR, α, hC⟩
      unfold sLn
      rw [if_pos hw, if_neg hno]
      first
        | (rw [if_pos rfl, hN.1]; done)
        | (rw [if_neg (by decide), if_pos rfl, ← hln.2.1]; done)
        | (rw [if_neg (by decide), if_neg (by decide), if_pos rfl]; done)
        | (rw [if_neg (by decide), if_neg (by decide), if_neg (by decide), if_pos rfl]; done)
        | (rw [if_neg (by decide), if_neg (by decide), if_neg (by decide), if_neg (by decide), if_pos rfl, hN.2.2.2.2.2.1]; done)
        | (rw [if_neg hs0, if_neg hs1, if_neg hs2, if_neg hs3, if_neg hs4, hN.2.2.2.2.2.2]; first | done | rfl)
    by_cases hs2 : w = 2
    · subst hs2
      refine aw_tabIn 39 87 dX11_line_39 (by decide) (by decide) rfl (by decide) ?_
      refine aw_aload4 87 dX11_line_87 ?_
      refine aw_get 89 dX11_line_89 ckF_RX11_207_7 hN.2.1 hN.2.2.2.1 ?_
      refine aw_iret 92 dX11_line_92 rfl (Nat.zero_le _) (Nat.zero_le _) ?_
      refine ⟨?_, hR, α, hC⟩
      unfold sLn
      rw [if_pos hw, if_neg hno]
      first
        | (rw [if_pos rfl, hN.1]; done)
        | (rw [if_neg (by decide), if_pos rfl, ← hln.2.1]; done)
        | (rw [if_neg (by decide), if_neg (by decide), if_pos rfl]; done)
        | (rw [if_neg (by decide), if_neg (by decide), if_neg (by decide), if_pos rfl]; done)
        | (rw [if_neg (by decide), if_neg (by decide), if_neg (by decide), if_neg (by decide), if_pos rfl, hN.2.2.2.2.2.1]; done)
        | (rw [if_neg hs0, if_neg hs1, if_neg hs2, if_neg hs3, if_neg hs4, hN.2.2.2.2.2.2]; first | done | rfl)
    by_cases hs3 : w = 3
    · subst hs3
      refine aw_tabIn 39 93 dX11_line_39 (by decide) (by decide) rfl (by decide) ?_
      refine aw_aload4 93 dX11_line_93 ?_
      refine aw_get 95 dX11_line_95 ckF_RX11_160_7 hN.2.1 hN.2.2.2.2.1 ?_
      refine aw_iret 98 dX11_line_98 rfl (Nat.zero_le _) (Nat.zero_le _) ?_
      refine ⟨?_, hR, α, hC⟩
      unfold sLn
      rw [if_pos hw, if_neg hno]
      first
        | (rw [if_pos rfl, hN.1]; done)
        | (rw [if_neg (by decide), if_pos rfl, ← hln.2.1]; done)
        | (rw [if_neg (by decide), if_neg (by decide), if_pos rfl]; done)
        | (rw [if_neg (by decide), if_neg (by decide), if_neg (by decide), if_pos rfl]; done)
        | (rw [if_neg (by decide), if_neg (by decide), if_neg (by decide), if_neg (by decide), if_pos rfl, hN.2.2.2.2.2.1]; done)
        | (rw [if_neg hs0, if_neg hs1, if_neg hs2, if_neg hs3, if_neg hs4, hN.2.2.2.2.2.2]; first | done | rfl)
    by_cases hs4 : w = 4
    · subst hs4
      refine aw_tabIn 39 99 dX11_line_39 (by decide) (by decide) rfl (by decide) ?_
      refine aw_aload4 99 dX11_line_99 ?_
      refine cr_u1 (rr := (RX7, TX7, 3)) (owner := RX7) (y := ⟨RX7, "origin", "()LPicturePapers$Picture;"⟩) 101 dX11_line_101 c_X7_origin ckU_RX11_210_7 cd_X7_origin cd_X7_origin hN.2.1 vc7 rfl (Nat.le_of_ble_eq_true rfl) ⟨⟨by decide, by decide⟩, by decide, by decide⟩ rfl ?_
      refine aw_ifnonnullN 104 dX11_line_104 ?_
      refine aw_bipush 107 (-9) dX11_line_107 (by decide) ?_
      refine aw_goto 109 120 dX11_line_109 (by decide) ?_
      refine aw_iret 120 dX11_line_120 rfl (Nat.zero_le _) (Nat.zero_le _) ?_
      refine ⟨?_, hR, α, hC⟩
      unfold sLn
      rw [if_pos hw, if_neg hno]
      first
        | (rw [if_pos rfl, hN.1]; done)
        | (rw [if_neg (by decide), if_pos rfl, ← hln.2.1]; done)
        | (rw [if_neg (by decide), if_neg (by decide), if_pos rfl]; done)
        | (rw [if_neg (by decide), if_neg (by decide), if_neg (by decide), if_pos rfl]; done)
        | (rw [if_neg (by decide), if_neg (by decide), if_neg (by decide), if_neg (by decide), if_pos rfl, hN.2.2.2.2.2.1]; done)
        | (rw [if_neg hs0, if_neg hs1, if_neg hs2, if_neg hs3, if_neg hs4, hN.2.2.2.2.2.2]; first | done | rfl)
    have hso : w.toInt < 0 ∨ 4 < w.toInt := by
      have q0 := lv_neT (a := 0) hs0 (by decide)
      have q1 := lv_neT (a := 1) hs1 (by decide)
      have q2 := lv_neT (a := 2) hs2 (by decide)
      have q3 := lv_neT (a := 3) hs3 (by decide)
      have q4 := lv_neT (a := 4) hs4 (by decide)
      omega
    refine aw_tabOut 39 121 dX11_line_39 hso (by decide) ?_
    refine aw_aload4 121 dX11_line_121 ?_
    refine cr_u1 (rr := (RX7, TX7, 3)) (owner := RX7) (y := ⟨RX7, "acts", "()[I"⟩) 123 dX11_line_123 c_X7_acts ckU_RX11_213_7 cd_X7_acts cd_X7_acts hN.2.1 vc7 rfl (Nat.le_of_ble_eq_true rfl) ⟨⟨by decide, by decide⟩, by decide, by decide⟩ rfl ?_
    refine aw_alen 126 dX11_line_126 hC.ax.1 ?_
    refine aw_iret 127 dX11_line_127 rfl (Nat.zero_le _) (Nat.zero_le _) ?_
    refine ⟨?_, hR, α, hC⟩
    unfold sLn
    rw [if_pos hw, if_neg hno]
    first
      | (rw [if_pos rfl, hN.1]; done)
      | (rw [if_neg (by decide), if_pos rfl, ← hln.2.1]; done)
      | (rw [if_neg (by decide), if_neg (by decide), if_pos rfl]; done)
      | (rw [if_neg (by decide), if_neg (by decide), if_neg (by decide), if_pos rfl]; done)
      | (rw [if_neg (by decide), if_neg (by decide), if_neg (by decide), if_neg (by decide), if_pos rfl, hN.2.2.2.2.2.1]; done)
      | (rw [if_neg hs0, if_neg hs1, if_neg hs2, if_neg hs3, if_neg hs4, hN.2.2.2.2.2.2]; first | done | rfl)
  · exact absurd hw h18

set_option maxHeartbeats 4000000 in
set_option maxRecDepth 100000 in
theorem c1_X11_line {M0 : Mem} {τ : TT} {α : AT} {p : Nat} {w : Int32} (hC : CW τ α M0) (hp : p < nP τ) (hw : irg w 0 5) (hN : NC1 τ α M0 p) : CK mX11_line rmX11_line [.int (nI p), .int w] M0 (.int (sLn τ p w)) (τ) := by
  refine am_of rfl rfl (ls := [some (.ref 2), some (.int (nI p)), some (.int w), none, none]) rfl ?_
  suffices HH : ∀ M, (CW τ α M) → (Kr M0 M) → (NC1 τ α M p) → AW mX11_line rmX11_line (fun r' M' => r' = (some (.int (sLn τ p w))) ∧ (fun M2 => Kr M0 M2 ∧ ∃ α2, CW (τ) α2 M2) M') 0 [some (.ref 2), some (.int (nI p)), some (.int w), none, none] [] M 0 0 from HH M0 hC (Kr.rf _) hN
  intro M hC hR hN
  have hno : ¬ τ 16 p < 0 := by rw [hN.1]; decide
  have hln := hC.ln hp hno
  have hk0 : ¬ τ 16 p = 0 := by rw [hN.1]; decide
  have hf : (dgt (τ 20) p) < nP τ := by have := (hln.2.2.1 hk0).1; omega
  obtain ⟨l, hl1, hl2, hl3, hl4, hl5, hl6⟩ := CW.ac hN
  refine aw_aload0 0 dX11_line_0 ?_
  refine aw_iload1 1 dX11_line_1 ?_
  refine cr_v1 2 dX11_line_2 (c_X11_pictureAt hC hp) ckV_RX11_106 cd_X11_pictureAt hC.xo.1 vc11 rfl rfl (Nat.le_of_ble_eq_true rfl) ⟨⟨by decide, by decide⟩, by decide, by decide⟩ rfl ?_
  refine aw_astore3 5 dX11_line_5 rfl ?_
  refine aw_aload3 6 dX11_line_6 ?_
  refine aw_ifnonnull 7 12 dX11_line_7 (by decide) ?_
  refine aw_iload2 12 dX11_line_12 ?_
  refine aw_ic0 13 dX11_line_13 ?_
  refine aw_ic5 14 dX11_line_14 ?_
  refine cr_s1 15 dX11_line_15 (cr_sd (c_isInZ (0) (5) (by decide) (by decide))) ckS_RX11_72 cd_X11_isIn rfl (Nat.le_of_ble_eq_true rfl) ⟨⟨by decide, by decide⟩, by decide, by decide⟩ rfl ?_
  refine aw_ifne_b 18 24 dX11_line_18 (by decide) (fun h18 => ?_) (fun h18 => ?_)
  · refine aw_aload3 24 dX11_line_24 ?_
    refine aw_get 25 dX11_line_25 ckF_RX11_147_3 (hC.pc p hp).2.2.2.1 ((hC.pc p hp).2.2.2.2.2.2.2.2.1.trans (if_neg hno)) ?_
    refine aw_astore4 28 dX11_line_28 rfl ?_
    refine aw_aload4 30 dX11_line_30 ?_
    refine aw_ifnonnull 32 38 dX11_line_32 (by decide) ?_
    refine aw_iload2 38 dX11_line_38 ?_
    by_cases hs0 : w = 0
    · subst hs0
      refine aw_tabIn 39 72 dX11_line_39 (by decide) (by decide) rfl (by decide) ?_
      refine aw_aload4 72 dX11_line_72 ?_
      refine cr_u1 (rr := (RX0, TX0, 5)) (owner := RX7) (y := ⟨RX7, "kind", "()I"⟩) 74 dX11_line_74 c_X0_kind ckU_RX11_199_0 cd_X0_kind cd_X7_kind hN.2.1 vc0 rfl (Nat.le_of_ble_eq_true rfl) ⟨⟨by decide, by decide⟩, by decide, by decide⟩ rfl ?_
      refine aw_iret 77 dX11_line_77 rfl (Nat.zero_le _) (Nat.zero_le _) ?_
      refine ⟨?_, hR, α, hC⟩
      unfold sLn
      rw [if_pos hw, if_neg hno]
      first
        | (rw [if_pos rfl, hN.1]; done)
        | (rw [if_neg (by decide), if_pos rfl, ← hln.2.1]; done)
        | (rw [if_neg (by decide), if_neg (by decide), if_pos rfl]; done)
        | (rw [if_neg (by decide), if_neg (by decide), if_neg (by decide), if_pos rfl]; done)
        | (rw [if_neg (by decide), if_neg (by decide), if_neg (by decide), if_neg (by decide), if_pos rfl, ← (hln.2.2.1 hk0).2]; done)
        | (rw [if_neg hs0, if_neg hs1, if_neg hs2, if_neg hs3, if_neg hs4, hl3]; first | done | rfl)
    by_cases hs1 : w = 1
    · subst hs1
      refine aw_tabIn 39 78 dX11_line_39 (by decide) (by decide) rfl (by decide) ?_
      refine aw_aload4 78 dX11_line_78 ?_
      refine aw_get 80 dX11_line_80 ckF_RX11_202_0 hN.2.1 hN.2.2.1 ?_
      refine aw_get 83 dX11_line_83 ckF_RX11_206_1 (hC.lc (dgt (τ 17) p) hln.1).2.2.2.1 (hC.lc (dgt (τ 17) p) hln.1).2.2.2.2.1 ?_
      refine aw_iret 86 dX11_line_86 rfl (Nat.zero_le _) (Nat.zero_le _) ?_
      refine ⟨?_, hR, α, hC⟩
      unfold sLn
      rw [if_pos hw, if_neg hno]
      first
        | (rw [if_pos rfl, hN.1]; done)
        | (rw [if_neg (by decide), if_pos rfl, ← hln.2.1]; done)
        | (rw [if_neg (by decide), if_neg (by decide), if_pos rfl]; done)
        | (rw [if_neg (by decide), if_neg (by decide), if_neg (by decide), if_pos rfl]; done)
        | (rw [if_neg (by decide), if_neg (by decide), if_neg (by decide), if_neg (by decide), if_pos rfl, ← (hln.2.2.1 hk0).2]; done)
        | (rw [if_neg hs0, if_neg hs1, if_neg hs2, if_neg hs3, if_neg hs4, hl3]; first | done | rfl)
    by_cases hs2 : w = 2
    · subst hs2
      refine aw_tabIn 39 87 dX11_line_39 (by decide) (by decide) rfl (by decide) ?_
      refine aw_aload4 87 dX11_line_87 ?_
      refine aw_get 89 dX11_line_89 ckF_RX11_207_0 hN.2.1 hN.2.2.2.1 ?_
      refine aw_iret 92 dX11_line_92 rfl (Nat.zero_le _) (Nat.zero_le _) ?_
      refine ⟨?_, hR, α, hC⟩
      unfold sLn
      rw [if_pos hw, if_neg hno]
      first
        | (rw [if_pos rfl, hN.1]; done)
        | (rw [if_neg (by decide), if_pos rfl, ← hln.2.1]; done)
        | (rw [if_neg (by decide), if_neg (by decide), if_pos rfl]; done)
        | (rw [if_neg (by decide), if_neg (by decide), if_neg (by decide), if_pos rfl]; done)
        | (rw [if_neg (by decide), if_neg (by decide), if_neg (by decide), if_neg (by decide), if_pos rfl, ← (hln.2.2.1 hk0).2]; done)
        | (rw [if_neg hs0, if_neg hs1, if_neg hs2, if_neg hs3, if_neg hs4, hl3]; first | done | rfl)
    by_cases hs3 : w = 3
    · subst hs3
      refine aw_tabIn 39 93 dX11_line_39 (by decide) (by decide) rfl (by decide) ?_
      refine aw_aload4 93 dX11_line_93 ?_
      refine aw_get 95 dX11_line_95 ckF_RX11_160_0 hN.2.1 hN.2.2.2.2.1 ?_
      refine aw_iret 98 dX11_line_98 rfl (Nat.zero_le _) (Nat.zero_le _) ?_
      refine ⟨?_, hR, α, hC⟩
      unfold sLn
      rw [if_pos hw, if_neg hno]
      first
        | (rw [if_pos rfl, hN.1]; done)
        | (rw [if_neg (by decide), if_pos rfl, ← hln.2.1]; done)
        | (rw [if_neg (by decide), if_neg (by decide), if_pos rfl]; done)
        | (rw [if_neg (by decide), if_neg (by decide), if_neg (by decide), if_pos rfl]; done)
        | (rw [if_neg (by decide), if_neg (by decide), if_neg (by decide), if_neg (by decide), if_pos rfl, ← (hln.2.2.1 hk0).2]; done)
        | (rw [if_neg hs0, if_neg hs1, if_neg hs2, if_neg hs3, if_neg hs4, hl3]; first | done | rfl)
    by_cases hs4 : w = 4
    · subst hs4
      refine aw_tabIn 39 99 dX11_line_39 (by decide) (by decide) rfl (by decide) ?_
      refine aw_aload4 99 dX11_line_99 ?_
      refine cr_u1 (rr := (RX0, TX0, 5)) (owner := RX7) (y := ⟨RX7, "origin", "()LPicturePapers$Picture;"⟩) 101 dX11_line_101 (c0_X0_origin hN.2.1 hN.2.2.2.2.2.1) ckU_RX11_210_0 cd_X0_origin cd_X7_origin hN.2.1 vc0 rfl (Nat.le_of_ble_eq_true rfl) ⟨⟨by decide, by decide⟩, by decide, by decide⟩ rfl ?_
      refine aw_ifnonnull 104 112 dX11_line_104 (by decide) ?_
      refine aw_aload4 112 dX11_line_112 ?_
      refine cr_u1 (rr := (RX0, TX0, 5)) (owner := RX7) (y := ⟨RX7, "origin", "()LPicturePapers$Picture;"⟩) 114 dX11_line_114 (c0_X0_origin hN.2.1 hN.2.2.2.2.2.1) ckU_RX11_210_0 cd_X0_origin cd_X7_origin hN.2.1 vc0 rfl (Nat.le_of_ble_eq_true rfl) ⟨⟨by decide, by decide⟩, by decide, by decide⟩ rfl ?_
      refine aw_get 117 dX11_line_117 ckF_RX11_103_3 (hC.pc (dgt (τ 20) p) hf).2.2.2.1 (hC.pc (dgt (τ 20) p) hf).2.2.2.2.1 ?_
      refine aw_iret 120 dX11_line_120 rfl (Nat.zero_le _) (Nat.zero_le _) ?_
      refine ⟨?_, hR, α, hC⟩
      unfold sLn
      rw [if_pos hw, if_neg hno]
      first
        | (rw [if_pos rfl, hN.1]; done)
        | (rw [if_neg (by decide), if_pos rfl, ← hln.2.1]; done)
        | (rw [if_neg (by decide), if_neg (by decide), if_pos rfl]; done)
        | (rw [if_neg (by decide), if_neg (by decide), if_neg (by decide), if_pos rfl]; done)
        | (rw [if_neg (by decide), if_neg (by decide), if_neg (by decide), if_neg (by decide), if_pos rfl, ← (hln.2.2.1 hk0).2]; done)
        | (rw [if_neg hs0, if_neg hs1, if_neg hs2, if_neg hs3, if_neg hs4, hl3]; first | done | rfl)
    have hso : w.toInt < 0 ∨ 4 < w.toInt := by
      have q0 := lv_neT (a := 0) hs0 (by decide)
      have q1 := lv_neT (a := 1) hs1 (by decide)
      have q2 := lv_neT (a := 2) hs2 (by decide)
      have q3 := lv_neT (a := 3) hs3 (by decide)
      have q4 := lv_neT (a := 4) hs4 (by decide)
      omega
    refine aw_tabOut 39 121 dX11_line_39 hso (by decide) ?_
    refine aw_aload4 121 dX11_line_121 ?_
    refine cr_u1 (rr := (RX0, TX0, 5)) (owner := RX7) (y := ⟨RX7, "acts", "()[I"⟩) 123 dX11_line_123 (c0_X0_acts hN.2.1 hN.2.2.2.2.2.2.1) ckU_RX11_213_0 cd_X0_acts cd_X7_acts hN.2.1 vc0 rfl (Nat.le_of_ble_eq_true rfl) ⟨⟨by decide, by decide⟩, by decide, by decide⟩ rfl ?_
    refine aw_alen 126 dX11_line_126 hl4 ?_
    refine aw_iret 127 dX11_line_127 rfl (Nat.zero_le _) (Nat.zero_le _) ?_
    refine ⟨?_, hR, α, hC⟩
    unfold sLn
    rw [if_pos hw, if_neg hno]
    first
      | (rw [if_pos rfl, hN.1]; done)
      | (rw [if_neg (by decide), if_pos rfl, ← hln.2.1]; done)
      | (rw [if_neg (by decide), if_neg (by decide), if_pos rfl]; done)
      | (rw [if_neg (by decide), if_neg (by decide), if_neg (by decide), if_pos rfl]; done)
      | (rw [if_neg (by decide), if_neg (by decide), if_neg (by decide), if_neg (by decide), if_pos rfl, ← (hln.2.2.1 hk0).2]; done)
      | (rw [if_neg hs0, if_neg hs1, if_neg hs2, if_neg hs3, if_neg hs4, hl3]; first | done | rfl)
  · exact absurd hw h18

set_option maxHeartbeats 4000000 in
set_option maxRecDepth 100000 in
theorem c2_X11_line {M0 : Mem} {τ : TT} {α : AT} {p : Nat} {w : Int32} (hC : CW τ α M0) (hp : p < nP τ) (hw : irg w 0 5) (hN : NC2 τ α M0 p) : CK mX11_line rmX11_line [.int (nI p), .int w] M0 (.int (sLn τ p w)) (τ) := by
  refine am_of rfl rfl (ls := [some (.ref 2), some (.int (nI p)), some (.int w), none, none]) rfl ?_
  suffices HH : ∀ M, (CW τ α M) → (Kr M0 M) → (NC2 τ α M p) → AW mX11_line rmX11_line (fun r' M' => r' = (some (.int (sLn τ p w))) ∧ (fun M2 => Kr M0 M2 ∧ ∃ α2, CW (τ) α2 M2) M') 0 [some (.ref 2), some (.int (nI p)), some (.int w), none, none] [] M 0 0 from HH M0 hC (Kr.rf _) hN
  intro M hC hR hN
  have hno : ¬ τ 16 p < 0 := by rw [hN.1]; decide
  have hln := hC.ln hp hno
  have hk0 : ¬ τ 16 p = 0 := by rw [hN.1]; decide
  have hf : (dgt (τ 20) p) < nP τ := by have := (hln.2.2.1 hk0).1; omega
  refine aw_aload0 0 dX11_line_0 ?_
  refine aw_iload1 1 dX11_line_1 ?_
  refine cr_v1 2 dX11_line_2 (c_X11_pictureAt hC hp) ckV_RX11_106 cd_X11_pictureAt hC.xo.1 vc11 rfl rfl (Nat.le_of_ble_eq_true rfl) ⟨⟨by decide, by decide⟩, by decide, by decide⟩ rfl ?_
  refine aw_astore3 5 dX11_line_5 rfl ?_
  refine aw_aload3 6 dX11_line_6 ?_
  refine aw_ifnonnull 7 12 dX11_line_7 (by decide) ?_
  refine aw_iload2 12 dX11_line_12 ?_
  refine aw_ic0 13 dX11_line_13 ?_
  refine aw_ic5 14 dX11_line_14 ?_
  refine cr_s1 15 dX11_line_15 (cr_sd (c_isInZ (0) (5) (by decide) (by decide))) ckS_RX11_72 cd_X11_isIn rfl (Nat.le_of_ble_eq_true rfl) ⟨⟨by decide, by decide⟩, by decide, by decide⟩ rfl ?_
  refine aw_ifne_b 18 24 dX11_line_18 (by decide) (fun h18 => ?_) (fun h18 => ?_)
  · refine aw_aload3 24 dX11_line_24 ?_
    refine aw_get 25 dX11_line_25 ckF_RX11_147_3 (hC.pc p hp).2.2.2.1 ((hC.pc p hp).2.2.2.2.2.2.2.2.1.trans (if_neg hno)) ?_
    refine aw_astore4 28 dX11_line_28 rfl ?_
    refine aw_aload4 30 dX11_line_30 ?_
    refine aw_ifnonnull 32 38 dX11_line_32 (by decide) ?_
    refine aw_iload2 38 dX11_line_38 ?_
    by_cases hs0 : w = 0
    · subst hs0
      refine aw_tabIn 39 72 dX11_line_39 (by decide) (by decide) rfl (by decide) ?_
      refine aw_aload4 72 dX11_line_72 ?_
      refine cr_u1 (rr := (RX6, TX6, 5)) (owner := RX7) (y := ⟨RX7, "kind", "()I"⟩) 74 dX11_line_74 c_X6_kind ckU_RX11_199_6 cd_X6_kind cd_X7_kind hN.2.1 vc6 rfl (Nat.le_of_ble_eq_true rfl) ⟨⟨by decide, by decide⟩, by decide, by decide⟩ rfl ?_
      refine aw_iret 77 dX11_line_77 rfl (Nat.zero_le _) (Nat.zero_le _) ?_
      refine ⟨?_, hR, α, hC⟩
      unfold sLn
      rw [if_pos hw, if_neg hno]
      first
        | (rw [if_pos rfl, hN.1]; done)
        | (rw [if_neg (by decide), if_pos rfl, ← hln.2.1]; done)
        | (rw [if_neg (by decide), if_neg (by decide), if_pos rfl]; done)
        | (rw [if_neg (by decide), if_neg (by decide), if_neg (by decide), if_pos rfl]; done)
        | (rw [if_neg (by decide), if_neg (by decide), if_neg (by decide), if_neg (by decide), if_pos rfl, ← (hln.2.2.1 hk0).2]; done)
        | (rw [if_neg hs0, if_neg hs1, if_neg hs2, if_neg hs3, if_neg hs4, hN.2.2.2.2.2.2.2]; first | done | rfl)
    by_cases hs1 : w = 1
    · subst hs1
      refine aw_tabIn 39 78 dX11_line_39 (by decide) (by decide) rfl (by decide) ?_
      refine aw_aload4 78 dX11_line_78 ?_
      refine aw_get 80 dX11_line_80 ckF_RX11_202_6 hN.2.1 hN.2.2.1 ?_
      refine aw_get 83 dX11_line_83 ckF_RX11_206_1 (hC.lc (dgt (τ 17) p) hln.1).2.2.2.1 (hC.lc (dgt (τ 17) p) hln.1).2.2.2.2.1 ?_
      refine aw_iret 86 dX11_line_86 rfl (Nat.zero_le _) (Nat.zero_le _) ?_
      refine ⟨?_, hR, α, hC⟩
      unfold sLn
      rw [if_pos hw, if_neg hno]
      first
        | (rw [if_pos rfl, hN.1]; done)
        | (rw [if_neg (by decide), if_pos rfl, ← hln.2.1]; done)
        | (rw [if_neg (by decide), if_neg (by decide), if_pos rfl]; done)
        | (rw [if_neg (by decide), if_neg (by decide), if_neg (by decide), if_pos rfl]; done)
        | (rw [if_neg (by decide), if_neg (by decide), if_neg (by decide), if_neg (by decide), if_pos rfl, ← (hln.2.2.1 hk0).2]; done)
        | (rw [if_neg hs0, if_neg hs1, if_neg hs2, if_neg hs3, if_neg hs4, hN.2.2.2.2.2.2.2]; first | done | rfl)
    by_cases hs2 : w = 2
    · subst hs2
      refine aw_tabIn 39 87 dX11_line_39 (by decide) (by decide) rfl (by decide) ?_
      refine aw_aload4 87 dX11_line_87 ?_
      refine aw_get 89 dX11_line_89 ckF_RX11_207_6 hN.2.1 hN.2.2.2.1 ?_
      refine aw_iret 92 dX11_line_92 rfl (Nat.zero_le _) (Nat.zero_le _) ?_
      refine ⟨?_, hR, α, hC⟩
      unfold sLn
      rw [if_pos hw, if_neg hno]
      first
        | (rw [if_pos rfl, hN.1]; done)
        | (rw [if_neg (by decide), if_pos rfl, ← hln.2.1]; done)
        | (rw [if_neg (by decide), if_neg (by decide), if_pos rfl]; done)
        | (rw [if_neg (by decide), if_neg (by decide), if_neg (by decide), if_pos rfl]; done)
        | (rw [if_neg (by decide), if_neg (by decide), if_neg (by decide), if_neg (by decide), if_pos rfl, ← (hln.2.2.1 hk0).2]; done)
        | (rw [if_neg hs0, if_neg hs1, if_neg hs2, if_neg hs3, if_neg hs4, hN.2.2.2.2.2.2.2]; first | done | rfl)
    by_cases hs3 : w = 3
    · subst hs3
      refine aw_tabIn 39 93 dX11_line_39 (by decide) (by decide) rfl (by decide) ?_
      refine aw_aload4 93 dX11_line_93 ?_
      refine aw_get 95 dX11_line_95 ckF_RX11_160_6 hN.2.1 hN.2.2.2.2.1 ?_
      refine aw_iret 98 dX11_line_98 rfl (Nat.zero_le _) (Nat.zero_le _) ?_
      refine ⟨?_, hR, α, hC⟩
      unfold sLn
      rw [if_pos hw, if_neg hno]
      first
        | (rw [if_pos rfl, hN.1]; done)
        | (rw [if_neg (by decide), if_pos rfl, ← hln.2.1]; done)
        | (rw [if_neg (by decide), if_neg (by decide), if_pos rfl]; done)
        | (rw [if_neg (by decide), if_neg (by decide), if_neg (by decide), if_pos rfl]; done)
        | (rw [if_neg (by decide), if_neg (by decide), if_neg (by decide), if_neg (by decide), if_pos rfl, ← (hln.2.2.1 hk0).2]; done)
        | (rw [if_neg hs0, if_neg hs1, if_neg hs2, if_neg hs3, if_neg hs4, hN.2.2.2.2.2.2.2]; first | done | rfl)
    by_cases hs4 : w = 4
    · subst hs4
      refine aw_tabIn 39 99 dX11_line_39 (by decide) (by decide) rfl (by decide) ?_
      refine aw_aload4 99 dX11_line_99 ?_
      refine cr_u1 (rr := (RX6, TX6, 5)) (owner := RX7) (y := ⟨RX7, "origin", "()LPicturePapers$Picture;"⟩) 101 dX11_line_101 (c6_X0_origin hN.2.1 hN.2.2.2.2.2.1) ckU_RX11_210_6 cd_X0_origin cd_X7_origin hN.2.1 vc6 rfl (Nat.le_of_ble_eq_true rfl) ⟨⟨by decide, by decide⟩, by decide, by decide⟩ rfl ?_
      refine aw_ifnonnull 104 112 dX11_line_104 (by decide) ?_
      refine aw_aload4 112 dX11_line_112 ?_
      refine cr_u1 (rr := (RX6, TX6, 5)) (owner := RX7) (y := ⟨RX7, "origin", "()LPicturePapers$Picture;"⟩) 114 dX11_line_114 (c6_X0_origin hN.2.1 hN.2.2.2.2.2.1) ckU_RX11_210_6 cd_X0_origin cd_X7_origin hN.2.1 vc6 rfl (Nat.le_of_ble_eq_true rfl) ⟨⟨by decide, by decide⟩, by decide, by decide⟩ rfl ?_
      refine aw_get 117 dX11_line_117 ckF_RX11_103_3 (hC.pc (dgt (τ 20) p) hf).2.2.2.1 (hC.pc (dgt (τ 20) p) hf).2.2.2.2.1 ?_
      refine aw_iret 120 dX11_line_120 rfl (Nat.zero_le _) (Nat.zero_le _) ?_
      refine ⟨?_, hR, α, hC⟩
      unfold sLn
      rw [if_pos hw, if_neg hno]
      first
        | (rw [if_pos rfl, hN.1]; done)
        | (rw [if_neg (by decide), if_pos rfl, ← hln.2.1]; done)
        | (rw [if_neg (by decide), if_neg (by decide), if_pos rfl]; done)
        | (rw [if_neg (by decide), if_neg (by decide), if_neg (by decide), if_pos rfl]; done)
        | (rw [if_neg (by decide), if_neg (by decide), if_neg (by decide), if_neg (by decide), if_pos rfl, ← (hln.2.2.1 hk0).2]; done)
        | (rw [if_neg hs0, if_neg hs1, if_neg hs2, if_neg hs3, if_neg hs4, hN.2.2.2.2.2.2.2]; first | done | rfl)
    have hso : w.toInt < 0 ∨ 4 < w.toInt := by
      have q0 := lv_neT (a := 0) hs0 (by decide)
      have q1 := lv_neT (a := 1) hs1 (by decide)
      have q2 := lv_neT (a := 2) hs2 (by decide)
      have q3 := lv_neT (a := 3) hs3 (by decide)
      have q4 := lv_neT (a := 4) hs4 (by decide)
      omega
    refine aw_tabOut 39 121 dX11_line_39 hso (by decide) ?_
    refine aw_aload4 121 dX11_line_121 ?_
    refine cr_u1 (rr := (RX6, TX6, 5)) (owner := RX7) (y := ⟨RX7, "acts", "()[I"⟩) 123 dX11_line_123 (c6_X0_acts hN.2.1 hN.2.2.2.2.2.2.1) ckU_RX11_213_6 cd_X0_acts cd_X7_acts hN.2.1 vc6 rfl (Nat.le_of_ble_eq_true rfl) ⟨⟨by decide, by decide⟩, by decide, by decide⟩ rfl ?_
    refine aw_alen 126 dX11_line_126 hC.ax.1 ?_
    refine aw_iret 127 dX11_line_127 rfl (Nat.zero_le _) (Nat.zero_le _) ?_
    refine ⟨?_, hR, α, hC⟩
    unfold sLn
    rw [if_pos hw, if_neg hno]
    first
      | (rw [if_pos rfl, hN.1]; done)
      | (rw [if_neg (by decide), if_pos rfl, ← hln.2.1]; done)
      | (rw [if_neg (by decide), if_neg (by decide), if_pos rfl]; done)
      | (rw [if_neg (by decide), if_neg (by decide), if_neg (by decide), if_pos rfl]; done)
      | (rw [if_neg (by decide), if_neg (by decide), if_neg (by decide), if_neg (by decide), if_pos rfl, ← (hln.2.2.1 hk0).2]; done)
      | (rw [if_neg hs0, if_neg hs1, if_neg hs2, if_neg hs3, if_neg hs4, hN.2.2.2.2.2.2.2]; first | done | rfl)
  · exact absurd hw h18

theorem sz_bad {τ : TT} {p k : Nat} {u : HS} (h1 : u.2.1 = wd τ p) (h2 : u.2.2 = hg τ p) (hi : irg (τ 23 0) 0 20) : τ 23 0 < szO (brG u k - brG (hOf τ p) k) ↔ bad u.1 τ p k := by
  unfold bad
  by_cases c : thr τ p k
  · rw [brG_in (u := hOf τ p) c, brG_in (u := u) (by rw [h1, h2]; exact c)]
    exact ⟨fun q => ⟨c, q⟩, fun q => q.2⟩
  · rw [brG_out (u := hOf τ p) c, brG_out (u := u) (by rw [h1, h2]; exact c)]
    refine ⟨fun q => absurd q ?_, fun q => absurd q.1 c⟩
    rw [show szO (-1 - -1) = 0 by decide]
    intro q
    rw [Int32.lt_iff_toInt_lt] at q
    have := hi.1
    have : (0 : Int32).toInt = 0 := by decide
    omega

def rmX11_firstFarPlace : Room := { frames := 4, cells := 0, slots := 0, locals := 113 }
set_option maxHeartbeats 4000000 in
set_option maxRecDepth 100000 in
theorem c_X11_firstFarPlace {M0 : Mem} {τ : TT} {α : AT} {p : Nat} (hC : CW τ α M0) (hp : p < nP τ) (hN : NC1 τ α M0 p) : AP mX11_firstFarPlace rmX11_firstFarPlace [.ref 2, .ref (α 0 p), .ref (α 3 p)] M0 (some (.int (plR τ p))) (fun M2 => Kp SC M0 M2 ∧ CW τ α M2) := by
  refine am_of rfl rfl (ls := [some (.ref 2), some (.ref (α 0 p)), some (.ref (α 3 p)), none, none, none]) rfl ?_
  suffices HH : ∀ M, (CW τ α M) → (Kp SC M0 M) → (NC1 τ α M p) → AW mX11_firstFarPlace rmX11_firstFarPlace (fun r' M' => r' = (some (.int (plR τ p))) ∧ (fun M2 => Kp SC M0 M2 ∧ CW τ α M2) M') 0 [some (.ref 2), some (.ref (α 0 p)), some (.ref (α 3 p)), none, none, none] [] M 0 0 from HH M0 hC (Kp.rf _ _) hN
  intro M hC hR hN
  have hno : ¬ τ 16 p < 0 := by rw [hN.1]; decide
  have hln := hC.ln hp hno
  have hk0 : ¬ τ 16 p = 0 := by rw [hN.1]; decide
  have hf : (dgt (τ 20) p) < nP τ := by have := (hln.2.2.1 hk0).1; omega
  obtain ⟨l, hl1, hl2, hl3, hl4, hl5, hl6⟩ := CW.ac hN
  obtain ⟨w, h, g, hK⟩ := hC.sx.2.2
  have h49 := (hC.pc (dgt (τ 20) p) hf).1
  have h4 := hN.2.2.2.2.2.2.2.1
  have w1 := hC.wp.2 p hp
  have hR2 : plR τ p = (dL (hOf τ (dgt (τ 20) p)) l).elim (-20) (fun u => if ¬ (u.2.1 = wd τ p ∧ u.2.2 = hg τ p) then -21 else ffp u.1 τ p 16 0) := by unfold plR; rw [hl6]
  refine aw_aload2 0 dX11_firstFarPlace_0 ?_
  refine cr_u1 (rr := (RX0, TX0, 5)) (owner := RX7) (y := ⟨RX7, "origin", "()LPicturePapers$Picture;"⟩) 1 dX11_firstFarPlace_1 (c0_X0_origin hN.2.1 hN.2.2.2.2.2.1) ckU_RX11_210_0 cd_X0_origin cd_X7_origin hN.2.1 vc0 rfl (Nat.le_of_ble_eq_true rfl) ⟨⟨by decide, by decide⟩, by decide, by decide⟩ rfl ?_
  refine aw_astore3 4 dX11_firstFarPlace_4 rfl ?_
  refine aw_aload3 5 dX11_firstFarPlace_5 ?_
  refine aw_ifnull 6 dX11_firstFarPlace_6 ?_
  refine aw_aload0 9 dX11_firstFarPlace_9 ?_
  refine aw_get 10 dX11_firstFarPlace_10 ckF_RX11_52_11 hC.xo.1 hC.xo.2.2.2.2.2.2.2.1 ?_
  refine aw_aload3 13 dX11_firstFarPlace_13 ?_
  refine aw_aload2 14 dX11_firstFarPlace_14 ?_
  refine cr_u1 (rr := (RX0, TX0, 5)) (owner := RX7) (y := ⟨RX7, "acts", "()[I"⟩) 15 dX11_firstFarPlace_15 (c0_X0_acts hN.2.1 hN.2.2.2.2.2.2.1) ckU_RX11_213_0 cd_X0_acts cd_X7_acts hN.2.1 vc0 rfl (Nat.le_of_ble_eq_true rfl) ⟨⟨by decide, by decide⟩, by decide, by decide⟩ rfl ?_
  refine aw_aload2 18 dX11_firstFarPlace_18 ?_
  refine cr_u1 (rr := (RX0, TX0, 5)) (owner := RX7) (y := ⟨RX7, "acts", "()[I"⟩) 19 dX11_firstFarPlace_19 (c0_X0_acts hN.2.1 hN.2.2.2.2.2.2.1) ckU_RX11_213_0 cd_X0_acts cd_X7_acts hN.2.1 vc0 rfl (Nat.le_of_ble_eq_true rfl) ⟨⟨by decide, by decide⟩, by decide, by decide⟩ rfl ?_
  refine aw_alen 22 dX11_firstFarPlace_22 hl4 ?_
  refine ap_v1 23 dX11_firstFarPlace_23 (c_X10_perform (u := hOf τ (dgt (τ 20) p)) hK (hC.pv hf) h49 hl4 (by unfold SW; omega) ⟨Nat.le_refl _, hl1⟩ hl5 hl2 (hOf_k hC.wp hC.sq hf)) ckV_RX11_187 cd_X10_perform hK.1 vc10 rfl rfl (Nat.le_of_ble_eq_true rfl) ⟨⟨by decide, by decide⟩, by decide, by decide⟩ rfl (fun M hq => ?_)
  replace hR := hR.trans (hq.1.kp.mono (fun b q => by unfold SW at q; unfold SC; omega))
  replace hC := hC.sww hq.1 hq.2.1
  clear hN
  refine aw_ifne_b 26 32 dX11_firstFarPlace_26 (by decide) (fun h26 => ?_) (fun h26 => ?_)
  · obtain ⟨u, hu⟩ := Option.isSome_iff_exists.mp h26
    rw [hu] at hR2
    have hku := dL_k (hOf_k hC.wp hC.sq hf) hl2 hu
    have hk1 := hku.1
    have hk2 := hku.2.1
    replace hK := hq.2.2 u hu
    replace hR2 : plR τ p = if ¬ (u.2.1 = wd τ p ∧ u.2.2 = hg τ p) then -21 else ffp u.1 τ p 16 0 := hR2
    refine aw_aload0 32 dX11_firstFarPlace_32 ?_
    refine aw_get 33 dX11_firstFarPlace_33 ckF_RX11_52_11 hC.xo.1 hC.xo.2.2.2.2.2.2.2.1 ?_
    refine aw_get 36 dX11_firstFarPlace_36 ckF_RX11_191_10 hK.1 hK.2.1 ?_
    refine aw_astore4 39 dX11_firstFarPlace_39 rfl ?_
    refine aw_aload4 41 dX11_firstFarPlace_41 ?_
    refine aw_get 43 dX11_firstFarPlace_43 ckF_RX11_110_3 hK.pv.1 hK.pv.2.2.2.1 ?_
    refine aw_aload1 46 dX11_firstFarPlace_46 ?_
    refine aw_get 47 dX11_firstFarPlace_47 ckF_RX11_110_3 (hC.pc p hp).2.2.2.1 ((hC.pc p hp).2.2.2.2.2.2.1.trans (congrArg Value.int (hC.wp.2 p hp).1.2.2)) ?_
    refine aw_icmp_neN 50 65 (u.2.1) (wd τ p) dX11_firstFarPlace_50 (by decide) rfl rfl (by omega) (by omega) (fun h50 => ?_) (fun h50 => ?_)
    · rw [hR2, if_pos (fun q => h50 q.1)]
      refine aw_bipush 65 (-21) dX11_firstFarPlace_65 (by decide) ?_
      refine aw_iret 67 dX11_firstFarPlace_67 rfl (Nat.zero_le _) (Nat.zero_le _) ?_
      exact ⟨rfl, hR, hC⟩
    · refine aw_aload4 53 dX11_firstFarPlace_53 ?_
      refine aw_get 55 dX11_firstFarPlace_55 ckF_RX11_113_3 hK.pv.1 hK.pv.2.2.2.2.1 ?_
      refine aw_aload1 58 dX11_firstFarPlace_58 ?_
      refine aw_get 59 dX11_firstFarPlace_59 ckF_RX11_113_3 (hC.pc p hp).2.2.2.1 ((hC.pc p hp).2.2.2.2.2.2.2.1.trans (congrArg Value.int (hC.wp.2 p hp).2.2.2)) ?_
      refine aw_icmp_eqN 62 68 (u.2.2) (hg τ p) dX11_firstFarPlace_62 (by decide) rfl rfl (by omega) (by omega) (fun h62 => ?_) (fun h62 => ?_)
      · rw [if_neg (nn ⟨h50, h62⟩)] at hR2
        refine aw_ic0 68 dX11_firstFarPlace_68 ?_
        refine aw_istore5 69 dX11_firstFarPlace_69 rfl ?_
        have LP71 : ∀ (dd : Nat) (k : Nat), 16 - k = dd → (k ≤ 16) → (ffp u.1 τ p 16 0 = ffp u.1 τ p (16 - k) k) → AW mX11_firstFarPlace rmX11_firstFarPlace (fun r' M' => r' = (some (.int (plR τ p))) ∧ (fun M2 => Kp SC M0 M2 ∧ CW τ α M2) M') 71 [some (.ref 2), some (.ref (α 0 p)), some (.ref (α 3 p)), some (.ref (α 0 (dgt (τ 20) p))), some (.ref 13), some (.int (nI k))] [] M 0 0 := by
          intro dd
          induction dd using Nat.strongRecOn with
          | _ dd ih71 =>
            intro k hdd hk hff
            refine aw_iload5 71 dX11_firstFarPlace_71 ?_
            refine aw_bipush 73 16 dX11_firstFarPlace_73 (by decide) ?_
            refine aw_icmp_geN 75 113 (k) (16) dX11_firstFarPlace_75 (by decide) rfl rfl (by omega) (by omega) (fun h75 => ?_) (fun h75 => ?_)
            · have he : k = 16 := by omega
              subst he
              refine aw_bipush 113 (-9) dX11_firstFarPlace_113 (by decide) ?_
              refine aw_iret 115 dX11_firstFarPlace_115 rfl (Nat.zero_le _) (Nat.zero_le _) ?_
              exact ⟨by rw [hR2, hff]; rfl, hR, hC⟩
            · rw [show 16 - k = (15 - k) + 1 by omega] at hff
              replace hff := hff.trans ffp_s
              refine aw_aload4 78 dX11_firstFarPlace_78 ?_
              refine aw_get 80 dX11_firstFarPlace_80 ckF_RX11_127_3 hK.pv.1 hK.pv.2.2.1 ?_
              refine aw_iload5 83 dX11_firstFarPlace_83 ?_
              refine ar_ld 85 (k) dX11_firstFarPlace_85 hK.pv.2.2.2.2.2.2 rfl (show k < 16 by omega) (by decide) ?_
              refine aw_aload1 86 dX11_firstFarPlace_86 ?_
              refine aw_get 87 dX11_firstFarPlace_87 ckF_RX11_127_3 (hC.pc p hp).2.2.2.1 (hC.pc p hp).2.2.2.2.2.1 ?_
              refine aw_iload5 90 dX11_firstFarPlace_90 ?_
              refine ar_ld 92 (k) dX11_firstFarPlace_92 (hC.pc p hp).2.2.2.2.2.2.2.2.2 rfl (show k < 16 by omega) (by decide) ?_
              refine aw_isub 93 dX11_firstFarPlace_93 ?_
              refine aw_abs 94 dX11_firstFarPlace_94 ckM_RX11_334 (Nat.le_of_ble_eq_true rfl) (by decide) (by decide) (Nat.zero_le _) (Nat.zero_le _) ?_
              refine aw_topi (abs_sz _) ?_
              refine aw_aload0 97 dX11_firstFarPlace_97 ?_
              refine aw_get 98 dX11_firstFarPlace_98 ckF_RX11_222_11 hC.xo.1 hC.xo.2.2.2.2.2.2.2.2.2.2.2.2.1 ?_
              refine aw_icmp_le 101 107 dX11_firstFarPlace_101 (by decide) (fun h101 => ?_) (fun h101 => ?_)
              · rw [if_neg (fun q => Int32.not_lt.mpr h101 ((sz_bad h50 h62 hC.wi).mpr q))] at hff
                refine aw_iinc5 107 (nI (k + 1)) dX11_firstFarPlace_107 (nI_1 _) rfl ?_
                refine aw_goto 110 71 dX11_firstFarPlace_110 (by decide) ?_
                exact ih71 _ (by omega) (k + 1) rfl (by omega) (by rw [hff, show 16 - (k + 1) = 15 - k by omega])
              · rw [if_pos ((sz_bad h50 h62 hC.wi).mp (Int32.not_le.mp h101))] at hff
                refine aw_iload5 104 dX11_firstFarPlace_104 ?_
                refine aw_iret 106 dX11_firstFarPlace_106 rfl (Nat.zero_le _) (Nat.zero_le _) ?_
                exact ⟨by rw [hR2, hff], hR, hC⟩
        exact LP71 _ 0 rfl (by omega) rfl
      · rw [hR2, if_pos (fun q => h62 q.2)]
        refine aw_bipush 65 (-21) dX11_firstFarPlace_65 (by decide) ?_
        refine aw_iret 67 dX11_firstFarPlace_67 rfl (Nat.zero_le _) (Nat.zero_le _) ?_
        exact ⟨rfl, hR, hC⟩
  · have hu : dL (hOf τ (dgt (τ 20) p)) l = none := by
      cases hz : dL (hOf τ (dgt (τ 20) p)) l with
      | none => rfl
      | some z => rw [hz] at h26; exact absurd rfl h26
    rw [hu] at hR2
    rw [hR2]
    refine aw_bipush 29 (-20) dX11_firstFarPlace_29 (by decide) ?_
    refine aw_iret 31 dX11_firstFarPlace_31 rfl (Nat.zero_le _) (Nat.zero_le _) ?_
    exact ⟨rfl, hR, hC⟩

def rmX11_voiceOf : Room := { frames := 5, cells := 0, slots := 0, locals := 138 }
set_option maxHeartbeats 4000000 in
set_option maxRecDepth 100000 in
theorem c0_X11_voiceOf {M0 : Mem} {τ : TT} {α : AT} {p : Nat} (hC : CW τ α M0) (hp : p < nP τ) (hk : τ 16 p = 0) : AP mX11_voiceOf rmX11_voiceOf [.ref 2, .ref (α 0 p), .ref (α 3 p)] M0 (some (.int (spk τ p))) (fun M2 => Kp SC M0 M2 ∧ CW τ α M2) := by
  refine am_of rfl rfl (ls := [some (.ref 2), some (.ref (α 0 p)), some (.ref (α 3 p))]) rfl ?_
  suffices HH : ∀ M, (CW τ α M) → (Kp SC M0 M) → AW mX11_voiceOf rmX11_voiceOf (fun r' M' => r' = (some (.int (spk τ p))) ∧ (fun M2 => Kp SC M0 M2 ∧ CW τ α M2) M') 0 [some (.ref 2), some (.ref (α 0 p)), some (.ref (α 3 p))] [] M 0 0 from HH M0 hC (Kp.rf _ _)
  intro M hC hR
  have hno : ¬ τ 16 p < 0 := by rw [hk]; decide
  have hln := hC.ln hp hno
  have hN := (hC.nc p hp hno).k0 hk
  refine aw_aload2 0 dX11_voiceOf_0 ?_
  refine aw_get 1 dX11_voiceOf_1 ckF_RX11_202_7 hN.2.1 hN.2.2.1 ?_
  refine aw_get 4 dX11_voiceOf_4 ckF_RX11_141_1 (hC.lc (dgt (τ 17) p) hln.1).2.2.2.1 (hC.lc (dgt (τ 17) p) hln.1).2.2.2.2.2.2 ?_
  refine aw_aload2 7 dX11_voiceOf_7 ?_
  refine aw_get 8 dX11_voiceOf_8 ckF_RX11_207_7 hN.2.1 hN.2.2.2.1 ?_
  refine aw_icmp_gt 11 16 dX11_voiceOf_11 (by decide) (fun h11 => ?_) (fun h11 => ?_)
  · refine aw_aload0 16 dX11_voiceOf_16 ?_
    refine aw_aload1 17 dX11_voiceOf_17 ?_
    refine aw_aload2 18 dX11_voiceOf_18 ?_
    refine aw_get 19 dX11_voiceOf_19 ckF_RX11_202_7 hN.2.1 hN.2.2.1 ?_
    refine aw_aload2 22 dX11_voiceOf_22 ?_
    refine aw_get 23 dX11_voiceOf_23 ckF_RX11_207_7 hN.2.1 hN.2.2.2.1 ?_
    refine ap_v1 26 dX11_voiceOf_26 (c_X11_sealOf hC hp hln.1) ckV_RX11_153 cd_X11_sealOf hC.xo.1 vc11 rfl rfl (Nat.le_of_ble_eq_true rfl) ⟨⟨by decide, by decide⟩, by decide, by decide⟩ rfl (fun M hq => ?_)
    replace hR := hR.trans (hq.kpS (Or.inl rfl))
    replace hC := hC.wd8 hq
    replace hN := (hC.nc p hp hno).k0 hk
    clear hq
    refine aw_aload2 29 dX11_voiceOf_29 ?_
    refine aw_get 30 dX11_voiceOf_30 ckF_RX11_160_7 hN.2.1 hN.2.2.2.2.1 ?_
    refine aw_icmp_eq 33 38 dX11_voiceOf_33 (by decide) (fun h33 => ?_) (fun h33 => ?_)
    · refine aw_aload2 38 dX11_voiceOf_38 ?_
      refine cr_u1 (rr := (RX7, TX7, 3)) (owner := RX7) (y := ⟨RX7, "kind", "()I"⟩) 39 dX11_voiceOf_39 c_X7_kind ckU_RX11_199_7 cd_X7_kind cd_X7_kind hN.2.1 vc7 rfl (Nat.le_of_ble_eq_true rfl) ⟨⟨by decide, by decide⟩, by decide, by decide⟩ rfl ?_
      refine aw_ic1 42 dX11_voiceOf_42 ?_
      refine aw_icmp_neN 43 59 (0) (1) dX11_voiceOf_43 (by decide) rfl rfl (by decide) (by decide) (fun _ => ?_) (fun h => absurd h (by decide))
      refine aw_aload2 59 dX11_voiceOf_59 ?_
      refine cr_u1 (rr := (RX7, TX7, 3)) (owner := RX7) (y := ⟨RX7, "kind", "()I"⟩) 60 dX11_voiceOf_60 c_X7_kind ckU_RX11_199_7 cd_X7_kind cd_X7_kind hN.2.1 vc7 rfl (Nat.le_of_ble_eq_true rfl) ⟨⟨by decide, by decide⟩, by decide, by decide⟩ rfl ?_
      refine aw_ic2 63 dX11_voiceOf_63 ?_
      refine aw_icmp_neN 64 71 (0) (2) dX11_voiceOf_64 (by decide) rfl rfl (by decide) (by decide) (fun _ => ?_) (fun h => absurd h (by decide))
      refine aw_ic0 71 dX11_voiceOf_71 ?_
      refine aw_iret 72 dX11_voiceOf_72 rfl (Nat.zero_le _) (Nat.zero_le _) ?_
      refine ⟨?_, hR, hC⟩
      unfold spk
      first
        | (rw [if_pos (Int32.not_lt.mp h11)]; done)
        | (rw [if_neg (Int32.not_le.mpr h11), if_pos h33]; done)
        | (rw [if_neg (Int32.not_le.mpr h11), if_neg (nn h33), if_pos ⟨hk, h54⟩]; done)
        | (rw [if_neg (Int32.not_le.mpr h11), if_neg (nn h33), if_neg (fun q => q.2 h54), if_neg (by rw [hk]; decide)]; done)
        | (rw [if_neg (Int32.not_le.mpr h11), if_neg (nn h33), if_neg (fun q => absurd q.1 (by rw [hk]; decide)), if_pos hk]; done)
        | (rw [if_neg (Int32.not_le.mpr h11), if_neg (nn h33), if_neg (fun q => absurd q.1 (by rw [hk]; decide)), if_neg (by rw [hk]; decide)]; done)
    · refine aw_ic2 36 dX11_voiceOf_36 ?_
      refine aw_iret 37 dX11_voiceOf_37 rfl (Nat.zero_le _) (Nat.zero_le _) ?_
      refine ⟨?_, hR, hC⟩
      unfold spk
      first
        | (rw [if_pos (Int32.not_lt.mp h11)]; done)
        | (rw [if_neg (Int32.not_le.mpr h11), if_pos h33]; done)
        | (rw [if_neg (Int32.not_le.mpr h11), if_neg (nn h33), if_pos ⟨hk, h54⟩]; done)
        | (rw [if_neg (Int32.not_le.mpr h11), if_neg (nn h33), if_neg (fun q => q.2 h54), if_neg (by rw [hk]; decide)]; done)
        | (rw [if_neg (Int32.not_le.mpr h11), if_neg (nn h33), if_neg (fun q => absurd q.1 (by rw [hk]; decide)), if_pos hk]; done)
        | (rw [if_neg (Int32.not_le.mpr h11), if_neg (nn h33), if_neg (fun q => absurd q.1 (by rw [hk]; decide)), if_neg (by rw [hk]; decide)]; done)
  · refine aw_ic3 14 dX11_voiceOf_14 ?_
    refine aw_iret 15 dX11_voiceOf_15 rfl (Nat.zero_le _) (Nat.zero_le _) ?_
    refine ⟨?_, hR, hC⟩
    unfold spk
    first
      | (rw [if_pos (Int32.not_lt.mp h11)]; done)
      | (rw [if_neg (Int32.not_le.mpr h11), if_pos h33]; done)
      | (rw [if_neg (Int32.not_le.mpr h11), if_neg (nn h33), if_pos ⟨hk, h54⟩]; done)
      | (rw [if_neg (Int32.not_le.mpr h11), if_neg (nn h33), if_neg (fun q => q.2 h54), if_neg (by rw [hk]; decide)]; done)
      | (rw [if_neg (Int32.not_le.mpr h11), if_neg (nn h33), if_neg (fun q => absurd q.1 (by rw [hk]; decide)), if_pos hk]; done)
      | (rw [if_neg (Int32.not_le.mpr h11), if_neg (nn h33), if_neg (fun q => absurd q.1 (by rw [hk]; decide)), if_neg (by rw [hk]; decide)]; done)

set_option maxHeartbeats 4000000 in
set_option maxRecDepth 100000 in
theorem c1_X11_voiceOf {M0 : Mem} {τ : TT} {α : AT} {p : Nat} (hC : CW τ α M0) (hp : p < nP τ) (hk : τ 16 p = 1) : AP mX11_voiceOf rmX11_voiceOf [.ref 2, .ref (α 0 p), .ref (α 3 p)] M0 (some (.int (spk τ p))) (fun M2 => Kp SC M0 M2 ∧ CW τ α M2) := by
  refine am_of rfl rfl (ls := [some (.ref 2), some (.ref (α 0 p)), some (.ref (α 3 p))]) rfl ?_
  suffices HH : ∀ M, (CW τ α M) → (Kp SC M0 M) → AW mX11_voiceOf rmX11_voiceOf (fun r' M' => r' = (some (.int (spk τ p))) ∧ (fun M2 => Kp SC M0 M2 ∧ CW τ α M2) M') 0 [some (.ref 2), some (.ref (α 0 p)), some (.ref (α 3 p))] [] M 0 0 from HH M0 hC (Kp.rf _ _)
  intro M hC hR
  have hno : ¬ τ 16 p < 0 := by rw [hk]; decide
  have hln := hC.ln hp hno
  have hN := (hC.nc p hp hno).k1 hk
  refine aw_aload2 0 dX11_voiceOf_0 ?_
  refine aw_get 1 dX11_voiceOf_1 ckF_RX11_202_0 hN.2.1 hN.2.2.1 ?_
  refine aw_get 4 dX11_voiceOf_4 ckF_RX11_141_1 (hC.lc (dgt (τ 17) p) hln.1).2.2.2.1 (hC.lc (dgt (τ 17) p) hln.1).2.2.2.2.2.2 ?_
  refine aw_aload2 7 dX11_voiceOf_7 ?_
  refine aw_get 8 dX11_voiceOf_8 ckF_RX11_207_0 hN.2.1 hN.2.2.2.1 ?_
  refine aw_icmp_gt 11 16 dX11_voiceOf_11 (by decide) (fun h11 => ?_) (fun h11 => ?_)
  · refine aw_aload0 16 dX11_voiceOf_16 ?_
    refine aw_aload1 17 dX11_voiceOf_17 ?_
    refine aw_aload2 18 dX11_voiceOf_18 ?_
    refine aw_get 19 dX11_voiceOf_19 ckF_RX11_202_0 hN.2.1 hN.2.2.1 ?_
    refine aw_aload2 22 dX11_voiceOf_22 ?_
    refine aw_get 23 dX11_voiceOf_23 ckF_RX11_207_0 hN.2.1 hN.2.2.2.1 ?_
    refine ap_v1 26 dX11_voiceOf_26 (c_X11_sealOf hC hp hln.1) ckV_RX11_153 cd_X11_sealOf hC.xo.1 vc11 rfl rfl (Nat.le_of_ble_eq_true rfl) ⟨⟨by decide, by decide⟩, by decide, by decide⟩ rfl (fun M hq => ?_)
    replace hR := hR.trans (hq.kpS (Or.inl rfl))
    replace hC := hC.wd8 hq
    replace hN := (hC.nc p hp hno).k1 hk
    clear hq
    refine aw_aload2 29 dX11_voiceOf_29 ?_
    refine aw_get 30 dX11_voiceOf_30 ckF_RX11_160_0 hN.2.1 hN.2.2.2.2.1 ?_
    refine aw_icmp_eq 33 38 dX11_voiceOf_33 (by decide) (fun h33 => ?_) (fun h33 => ?_)
    · refine aw_aload2 38 dX11_voiceOf_38 ?_
      refine cr_u1 (rr := (RX0, TX0, 5)) (owner := RX7) (y := ⟨RX7, "kind", "()I"⟩) 39 dX11_voiceOf_39 c_X0_kind ckU_RX11_199_0 cd_X0_kind cd_X7_kind hN.2.1 vc0 rfl (Nat.le_of_ble_eq_true rfl) ⟨⟨by decide, by decide⟩, by decide, by decide⟩ rfl ?_
      refine aw_ic1 42 dX11_voiceOf_42 ?_
      refine aw_icmp_neN 43 59 (1) (1) dX11_voiceOf_43 (by decide) rfl rfl (by decide) (by decide) (fun h => absurd h (by decide)) (fun _ => ?_)
      refine aw_aload0 46 dX11_voiceOf_46 ?_
      refine aw_aload1 47 dX11_voiceOf_47 ?_
      refine aw_aload2 48 dX11_voiceOf_48 ?_
      refine ap_v1 49 dX11_voiceOf_49 (c_X11_firstFarPlace hC hp hN) ckV_RX11_219 cd_X11_firstFarPlace hC.xo.1 vc11 rfl rfl (Nat.le_of_ble_eq_true rfl) ⟨⟨by decide, by decide⟩, by decide, by decide⟩ rfl (fun M hq => ?_)
      replace hR := hR.trans hq.1
      replace hC := hq.2
      replace hN := (hC.nc p hp hno).k1 hk
      clear hq
      refine aw_bipush 52 (-9) dX11_voiceOf_52 (by decide) ?_
      refine aw_icmp_eq 54 59 dX11_voiceOf_54 (by decide) (fun h54 => ?_) (fun h54 => ?_)
      · refine aw_aload2 59 dX11_voiceOf_59 ?_
        refine cr_u1 (rr := (RX0, TX0, 5)) (owner := RX7) (y := ⟨RX7, "kind", "()I"⟩) 60 dX11_voiceOf_60 c_X0_kind ckU_RX11_199_0 cd_X0_kind cd_X7_kind hN.2.1 vc0 rfl (Nat.le_of_ble_eq_true rfl) ⟨⟨by decide, by decide⟩, by decide, by decide⟩ rfl ?_
        refine aw_ic2 63 dX11_voiceOf_63 ?_
        refine aw_icmp_neN 64 71 (1) (2) dX11_voiceOf_64 (by decide) rfl rfl (by decide) (by decide) (fun _ => ?_) (fun h => absurd h (by decide))
        refine aw_ic0 71 dX11_voiceOf_71 ?_
        refine aw_iret 72 dX11_voiceOf_72 rfl (Nat.zero_le _) (Nat.zero_le _) ?_
        refine ⟨?_, hR, hC⟩
        unfold spk
        first
          | (rw [if_pos (Int32.not_lt.mp h11)]; done)
          | (rw [if_neg (Int32.not_le.mpr h11), if_pos h33]; done)
          | (rw [if_neg (Int32.not_le.mpr h11), if_neg (nn h33), if_pos ⟨hk, h54⟩]; done)
          | (rw [if_neg (Int32.not_le.mpr h11), if_neg (nn h33), if_neg (fun q => q.2 h54), if_neg (by rw [hk]; decide)]; done)
          | (rw [if_neg (Int32.not_le.mpr h11), if_neg (nn h33), if_neg (fun q => absurd q.1 (by rw [hk]; decide)), if_pos hk]; done)
          | (rw [if_neg (Int32.not_le.mpr h11), if_neg (nn h33), if_neg (fun q => absurd q.1 (by rw [hk]; decide)), if_neg (by rw [hk]; decide)]; done)
      · refine aw_ic4 57 dX11_voiceOf_57 ?_
        refine aw_iret 58 dX11_voiceOf_58 rfl (Nat.zero_le _) (Nat.zero_le _) ?_
        refine ⟨?_, hR, hC⟩
        unfold spk
        first
          | (rw [if_pos (Int32.not_lt.mp h11)]; done)
          | (rw [if_neg (Int32.not_le.mpr h11), if_pos h33]; done)
          | (rw [if_neg (Int32.not_le.mpr h11), if_neg (nn h33), if_pos ⟨hk, h54⟩]; done)
          | (rw [if_neg (Int32.not_le.mpr h11), if_neg (nn h33), if_neg (fun q => q.2 h54), if_neg (by rw [hk]; decide)]; done)
          | (rw [if_neg (Int32.not_le.mpr h11), if_neg (nn h33), if_neg (fun q => absurd q.1 (by rw [hk]; decide)), if_pos hk]; done)
          | (rw [if_neg (Int32.not_le.mpr h11), if_neg (nn h33), if_neg (fun q => absurd q.1 (by rw [hk]; decide)), if_neg (by rw [hk]; decide)]; done)
    · refine aw_ic2 36 dX11_voiceOf_36 ?_
      refine aw_iret 37 dX11_voiceOf_37 rfl (Nat.zero_le _) (Nat.zero_le _) ?_
      refine ⟨?_, hR, hC⟩
      unfold spk
      first
        | (rw [if_pos (Int32.not_lt.mp h11)]; done)
        | (rw [if_neg (Int32.not_le.mpr h11), if_pos h33]; done)
        | (rw [if_neg (Int32.not_le.mpr h11), if_neg (nn h33), if_pos ⟨hk, h54⟩]; done)
        | (rw [if_neg (Int32.not_le.mpr h11), if_neg (nn h33), if_neg (fun q => q.2 h54), if_neg (by rw [hk]; decide)]; done)
        | (rw [if_neg (Int32.not_le.mpr h11), if_neg (nn h33), if_neg (fun q => absurd q.1 (by rw [hk]; decide)), if_pos hk]; done)
        | (rw [if_neg (Int32.not_le.mpr h11), if_neg (nn h33), if_neg (fun q => absurd q.1 (by rw [hk]; decide)), if_neg (by rw [hk]; decide)]; done)
  · refine aw_ic3 14 dX11_voiceOf_14 ?_
    refine aw_iret 15 dX11_voiceOf_15 rfl (Nat.zero_le _) (Nat.zero_le _) ?_
    refine ⟨?_, hR, hC⟩
    unfold spk
    first
      | (rw [if_pos (Int32.not_lt.mp h11)]; done)
      | (rw [if_neg (Int32.not_le.mpr h11), if_pos h33]; done)
      | (rw [if_neg (Int32.not_le.mpr h11), if_neg (nn h33), if_pos ⟨hk, h54⟩]; done)
      | (rw [if_neg (Int32.not_le.mpr h11), if_neg (nn h33), if_neg (fun q => q.2 h54), if_neg (by rw [hk]; decide)]; done)
      | (rw [if_neg (Int32.not_le.mpr h11), if_neg (nn h33), if_neg (fun q => absurd q.1 (by rw [hk]; decide)), if_pos hk]; done)
      | (rw [if_neg (Int32.not_le.mpr h11), if_neg (nn h33), if_neg (fun q => absurd q.1 (by rw [hk]; decide)), if_neg (by rw [hk]; decide)]; done)

set_option maxHeartbeats 4000000 in
set_option maxRecDepth 100000 in
theorem c2_X11_voiceOf {M0 : Mem} {τ : TT} {α : AT} {p : Nat} (hC : CW τ α M0) (hp : p < nP τ) (hk : τ 16 p = 2) : AP mX11_voiceOf rmX11_voiceOf [.ref 2, .ref (α 0 p), .ref (α 3 p)] M0 (some (.int (spk τ p))) (fun M2 => Kp SC M0 M2 ∧ CW τ α M2) := by
  refine am_of rfl rfl (ls := [some (.ref 2), some (.ref (α 0 p)), some (.ref (α 3 p))]) rfl ?_
  suffices HH : ∀ M, (CW τ α M) → (Kp SC M0 M) → AW mX11_voiceOf rmX11_voiceOf (fun r' M' => r' = (some (.int (spk τ p))) ∧ (fun M2 => Kp SC M0 M2 ∧ CW τ α M2) M') 0 [some (.ref 2), some (.ref (α 0 p)), some (.ref (α 3 p))] [] M 0 0 from HH M0 hC (Kp.rf _ _)
  intro M hC hR
  have hno : ¬ τ 16 p < 0 := by rw [hk]; decide
  have hln := hC.ln hp hno
  have hN := (hC.nc p hp hno).k2 hk
  refine aw_aload2 0 dX11_voiceOf_0 ?_
  refine aw_get 1 dX11_voiceOf_1 ckF_RX11_202_6 hN.2.1 hN.2.2.1 ?_
  refine aw_get 4 dX11_voiceOf_4 ckF_RX11_141_1 (hC.lc (dgt (τ 17) p) hln.1).2.2.2.1 (hC.lc (dgt (τ 17) p) hln.1).2.2.2.2.2.2 ?_
  refine aw_aload2 7 dX11_voiceOf_7 ?_
  refine aw_get 8 dX11_voiceOf_8 ckF_RX11_207_6 hN.2.1 hN.2.2.2.1 ?_
  refine aw_icmp_gt 11 16 dX11_voiceOf_11 (by decide) (fun h11 => ?_) (fun h11 => ?_)
  · refine aw_aload0 16 dX11_voiceOf_16 ?_
    refine aw_aload1 17 dX11_voiceOf_17 ?_
    refine aw_aload2 18 dX11_voiceOf_18 ?_
    refine aw_get 19 dX11_voiceOf_19 ckF_RX11_202_6 hN.2.1 hN.2.2.1 ?_
    refine aw_aload2 22 dX11_voiceOf_22 ?_
    refine aw_get 23 dX11_voiceOf_23 ckF_RX11_207_6 hN.2.1 hN.2.2.2.1 ?_
    refine ap_v1 26 dX11_voiceOf_26 (c_X11_sealOf hC hp hln.1) ckV_RX11_153 cd_X11_sealOf hC.xo.1 vc11 rfl rfl (Nat.le_of_ble_eq_true rfl) ⟨⟨by decide, by decide⟩, by decide, by decide⟩ rfl (fun M hq => ?_)
    replace hR := hR.trans (hq.kpS (Or.inl rfl))
    replace hC := hC.wd8 hq
    replace hN := (hC.nc p hp hno).k2 hk
    clear hq
    refine aw_aload2 29 dX11_voiceOf_29 ?_
    refine aw_get 30 dX11_voiceOf_30 ckF_RX11_160_6 hN.2.1 hN.2.2.2.2.1 ?_
    refine aw_icmp_eq 33 38 dX11_voiceOf_33 (by decide) (fun h33 => ?_) (fun h33 => ?_)
    · refine aw_aload2 38 dX11_voiceOf_38 ?_
      refine cr_u1 (rr := (RX6, TX6, 5)) (owner := RX7) (y := ⟨RX7, "kind", "()I"⟩) 39 dX11_voiceOf_39 c_X6_kind ckU_RX11_199_6 cd_X6_kind cd_X7_kind hN.2.1 vc6 rfl (Nat.le_of_ble_eq_true rfl) ⟨⟨by decide, by decide⟩, by decide, by decide⟩ rfl ?_
      refine aw_ic1 42 dX11_voiceOf_42 ?_
      refine aw_icmp_neN 43 59 (2) (1) dX11_voiceOf_43 (by decide) rfl rfl (by decide) (by decide) (fun _ => ?_) (fun h => absurd h (by decide))
      refine aw_aload2 59 dX11_voiceOf_59 ?_
      refine cr_u1 (rr := (RX6, TX6, 5)) (owner := RX7) (y := ⟨RX7, "kind", "()I"⟩) 60 dX11_voiceOf_60 c_X6_kind ckU_RX11_199_6 cd_X6_kind cd_X7_kind hN.2.1 vc6 rfl (Nat.le_of_ble_eq_true rfl) ⟨⟨by decide, by decide⟩, by decide, by decide⟩ rfl ?_
      refine aw_ic2 63 dX11_voiceOf_63 ?_
      refine aw_icmp_neN 64 71 (2) (2) dX11_voiceOf_64 (by decide) rfl rfl (by decide) (by decide) (fun h => absurd h (by decide)) (fun _ => ?_)
      refine aw_ic1 67 dX11_voiceOf_67 ?_
      refine aw_goto 68 72 dX11_voiceOf_68 (by decide) ?_
      refine aw_iret 72 dX11_voiceOf_72 rfl (Nat.zero_le _) (Nat.zero_le _) ?_
      refine ⟨?_, hR, hC⟩
      unfold spk
      first
        | (rw [if_pos (Int32.not_lt.mp h11)]; done)
        | (rw [if_neg (Int32.not_le.mpr h11), if_pos h33]; done)
        | (rw [if_neg (Int32.not_le.mpr h11), if_neg (nn h33), if_pos ⟨hk, h54⟩]; done)
        | (rw [if_neg (Int32.not_le.mpr h11), if_neg (nn h33), if_neg (fun q => q.2 h54), if_neg (by rw [hk]; decide)]; done)
        | (rw [if_neg (Int32.not_le.mpr h11), if_neg (nn h33), if_neg (fun q => absurd q.1 (by rw [hk]; decide)), if_pos hk]; done)
        | (rw [if_neg (Int32.not_le.mpr h11), if_neg (nn h33), if_neg (fun q => absurd q.1 (by rw [hk]; decide)), if_neg (by rw [hk]; decide)]; done)
    · refine aw_ic2 36 dX11_voiceOf_36 ?_
      refine aw_iret 37 dX11_voiceOf_37 rfl (Nat.zero_le _) (Nat.zero_le _) ?_
      refine ⟨?_, hR, hC⟩
      unfold spk
      first
        | (rw [if_pos (Int32.not_lt.mp h11)]; done)
        | (rw [if_neg (Int32.not_le.mpr h11), if_pos h33]; done)
        | (rw [if_neg (Int32.not_le.mpr h11), if_neg (nn h33), if_pos ⟨hk, h54⟩]; done)
        | (rw [if_neg (Int32.not_le.mpr h11), if_neg (nn h33), if_neg (fun q => q.2 h54), if_neg (by rw [hk]; decide)]; done)
        | (rw [if_neg (Int32.not_le.mpr h11), if_neg (nn h33), if_neg (fun q => absurd q.1 (by rw [hk]; decide)), if_pos hk]; done)
        | (rw [if_neg (Int32.not_le.mpr h11), if_neg (nn h33), if_neg (fun q => absurd q.1 (by rw [hk]; decide)), if_neg (by rw [hk]; decide)]; done)
  · refine aw_ic3 14 dX11_voiceOf_14 ?_
    refine aw_iret 15 dX11_voiceOf_15 rfl (Nat.zero_le _) (Nat.zero_le _) ?_
    refine ⟨?_, hR, hC⟩
    unfold spk
    first
      | (rw [if_pos (Int32.not_lt.mp h11)]; done)
      | (rw [if_neg (Int32.not_le.mpr h11), if_pos h33]; done)
      | (rw [if_neg (Int32.not_le.mpr h11), if_neg (nn h33), if_pos ⟨hk, h54⟩]; done)
      | (rw [if_neg (Int32.not_le.mpr h11), if_neg (nn h33), if_neg (fun q => q.2 h54), if_neg (by rw [hk]; decide)]; done)
      | (rw [if_neg (Int32.not_le.mpr h11), if_neg (nn h33), if_neg (fun q => absurd q.1 (by rw [hk]; decide)), if_pos hk]; done)
      | (rw [if_neg (Int32.not_le.mpr h11), if_neg (nn h33), if_neg (fun q => absurd q.1 (by rw [hk]; decide)), if_neg (by rw [hk]; decide)]; done)

theorem c_X11_voiceOf {M0 : Mem} {τ : TT} {α : AT} {p : Nat} (hC : CW τ α M0) (hp : p < nP τ) (hno : ¬ τ 16 p < 0) : AP mX11_voiceOf rmX11_voiceOf [.ref 2, .ref (α 0 p), .ref (α 3 p)] M0 (some (.int (spk τ p))) (fun M2 => Kp SC M0 M2 ∧ CW τ α M2) := by
  rcases hC.kd hp hno with h | h | h
  · exact c0_X11_voiceOf hC hp h
  · exact c1_X11_voiceOf hC hp h
  · exact c2_X11_voiceOf hC hp h
/-- where a picture comes from -/
theorem nx_none {τ : TT} {x : Nat} (hn : nx τ x = none) (h : ∃ f, f < 100 ∧ τ 20 x = nI f) : τ 16 x < 0 ∨ τ 16 x = 0 := by
  unfold nx nxt at hn
  by_cases c : τ 16 x < 0 ∨ τ 16 x = 0
  · exact c
  · rw [if_neg c] at hn
    obtain ⟨f, f1, f2⟩ := h
    rw [if_neg (by rw [f2]; exact nI_pos (by omega))] at hn
    cases hn
theorem c_orN {τ : TT} {α : AT} {M : Mem} {x : Nat} (hC : CW τ α M) (hx : x < nP τ) (hn : nx τ x = none) : CR mX3_origin rmX3_origin [.ref (α 0 x)] M (some .null) := by
  have hv := (hC.pc x hx).2.2.2
  by_cases hno : τ 16 x < 0
  · rw [pap, if_pos hno] at hv
    exact n_X3_origin hv
  · rw [pap, if_neg hno] at hv
    have h12 := hC.wp.1.1
    rcases hC.kd hx hno with h | h | h
    · exact t_X3_origin hv ((hC.nc x hx hno).k0 h).2.1
    · obtain ⟨f1, f2⟩ := (hC.ln hx hno).2.2.1 (by rw [h]; decide)
      rcases nx_none hn ⟨_, by omega, f2.symm⟩ with q | q
      · exact absurd q hno
      · exact absurd (q.symm.trans h) (by decide)
    · obtain ⟨f1, f2⟩ := (hC.ln hx hno).2.2.1 (by rw [h]; decide)
      rcases nx_none hn ⟨_, by omega, f2.symm⟩ with q | q
      · exact absurd q hno
      · exact absurd (q.symm.trans h) (by decide)
theorem nx_some {τ : TT} {x y : Nat} (hn : nx τ x = some y) : ¬ τ 16 x < 0 ∧ ¬ τ 16 x = 0 ∧ dgt (τ 20) x = y := by
  unfold nx at hn
  by_cases c : nxt τ x < 0
  · rw [if_pos c] at hn; cases hn
  · rw [if_neg c] at hn
    by_cases d : τ 16 x < 0 ∨ τ 16 x = 0
    · exact absurd (by unfold nxt; rw [if_pos d]; decide) c
    · refine ⟨fun q => d (Or.inl q), fun q => d (Or.inr q), ?_⟩
      have e := Option.some.inj hn
      rw [← e]
      unfold dgt nxt
      rw [if_neg d]
theorem c_orS {τ : TT} {α : AT} {M : Mem} {x y : Nat} (hC : CW τ α M) (hx : x < nP τ) (hn : nx τ x = some y) : CR mX3_origin rmX3_origin [.ref (α 0 x)] M (some (.ref (α 0 y))) := by
  obtain ⟨h1, h2, h3⟩ := nx_some hn
  subst h3
  have hv := (hC.pc x hx).2.2.2
  rw [pap, if_neg h1] at hv
  rcases hC.kd hx h1 with h | h | h
  · exact absurd h h2
  · have hN := (hC.nc x hx h1).k1 h
    exact c_X3_origin hv hN.2.1 hN.2.2.2.2.2.1
  · have hN := (hC.nc x hx h1).k2 h
    exact s_X3_origin hv hN.2.1 hN.2.2.2.2.2.1
theorem nx_lt {τ : TT} {α : AT} {M : Mem} {x y : Nat} (hC : CW τ α M) (hx : x < nP τ) (hn : nx τ x = some y) : y < x := (nx_ok hC.wn hx hC.wp.1.1).2.2 y hn

theorem dbO_n {τ : TT} {d : Nat} : dbO τ d none = -9 := by cases d <;> rfl
theorem dbO_s {τ : TT} {d x : Nat} : dbO τ (d + 1) (some x) = if τ 16 x < 0 ∨ 1 < spk τ x then nI x else dbO τ d (nx τ x) := rfl
theorem spk2 {τ : TT} {x : Nat} : spk τ x < 2 ↔ ¬ 1 < spk τ x := by
  rw [Int32.lt_iff_toInt_lt, Int32.lt_iff_toInt_lt, show (2 : Int32).toInt = 2 by decide, show (1 : Int32).toInt = 1 by decide]
  omega

def rmX11_firstDoubt : Room := { frames := 6, cells := 0, slots := 0, locals := 160 }
set_option maxHeartbeats 4000000 in
set_option maxRecDepth 100000 in
theorem c_X11_firstDoubt {M0 : Mem} {τ : TT} {α : AT} {p : Nat} (hC : CW τ α M0) (hp : p < nP τ) : AP mX11_firstDoubt rmX11_firstDoubt [.ref 2, .ref (α 0 p)] M0 (some (.int (dbt τ p))) (fun M2 => Kp SC M0 M2 ∧ CW τ α M2) := by
  refine am_of rfl rfl (ls := [some (.ref 2), some (.ref (α 0 p)), none]) rfl ?_
  suffices HH : ∀ M, (CW τ α M) → (Kp SC M0 M) → AW mX11_firstDoubt rmX11_firstDoubt (fun r' M' => r' = (some (.int (dbt τ p))) ∧ (fun M2 => Kp SC M0 M2 ∧ CW τ α M2) M') 0 [some (.ref 2), some (.ref (α 0 p)), none] [] M 0 0 from HH M0 hC (Kp.rf _ _)
  intro M hC hR
  have h12 := hC.wp.1.1
  refine aw_aload1 0 dX11_firstDoubt_0 ?_
  refine aw_astore2 1 dX11_firstDoubt_1 rfl ?_
  have LP2 : ∀ (dd : Nat) (xo : Option Nat) (d : Nat) (M : Mem), xo.elim 0 (· + 1) = dd → (∀ x, xo = some x → x < nP τ) → (xo.elim 0 (· + 1) ≤ d) → (CW τ α M) → (Kp SC M0 M) → (dbt τ p = dbO τ d xo) → AW mX11_firstDoubt rmX11_firstDoubt (fun r' M' => r' = (some (.int (dbt τ p))) ∧ (fun M2 => Kp SC M0 M2 ∧ CW τ α M2) M') 2 [some (.ref 2), some (.ref (α 0 p)), some (xo.elim .null (fun x => .ref (α 0 x)))] [] M 0 0 := by
    intro dd
    induction dd using Nat.strongRecOn with
    | _ dd ih2 =>
      intro xo d M hdd hxo hd hC hR hq
      cases xo with
      | none =>
        rw [dbO_n] at hq
        refine aw_aloadN2 2 dX11_firstDoubt_2 ?_
        refine aw_ifnullN 3 39 dX11_firstDoubt_3 (by decide) ?_
        refine aw_bipush 39 (-9) dX11_firstDoubt_39 (by decide) ?_
        refine aw_iret 41 dX11_firstDoubt_41 rfl (Nat.zero_le _) (Nat.zero_le _) ?_
        exact ⟨by rw [hq], hR, hC⟩
      | some x =>
        have hx : x < nP τ := hxo x rfl
        obtain ⟨d, rfl⟩ : ∃ e, d = e + 1 := ⟨d - 1, by have : x + 1 ≤ d := hd; omega⟩
        have hd3 : x ≤ d := by have : x + 1 ≤ d + 1 := hd; omega
        rw [dbO_s] at hq
        refine aw_aload2 2 dX11_firstDoubt_2 ?_
        refine aw_ifnull 3 dX11_firstDoubt_3 ?_
        refine aw_aload2 6 dX11_firstDoubt_6 ?_
        by_cases hno : τ 16 x < 0
        · refine aw_get 7 dX11_firstDoubt_7 ckF_RX11_147_3 (hC.pc x hx).2.2.2.1 ((hC.pc x hx).2.2.2.2.2.2.2.2.1.trans (if_pos hno)) ?_
          refine aw_ifnullN 10 26 dX11_firstDoubt_10 (by decide) ?_
          refine aw_aload2 26 dX11_firstDoubt_26 ?_
          refine aw_get 27 dX11_firstDoubt_27 ckF_RX11_103_3 (hC.pc x hx).2.2.2.1 (hC.pc x hx).2.2.2.2.1 ?_
          refine aw_iret 30 dX11_firstDoubt_30 rfl (Nat.zero_le _) (Nat.zero_le _) ?_
          refine ⟨?_, hR, hC⟩
          rw [hq]
          first
            | (rw [if_pos (Or.inl hno)]; done)
            | (rw [if_pos (Or.inr (Decidable.byContradiction (fun q => h23 (spk2.mpr q))))]; done)
        · refine aw_get 7 dX11_firstDoubt_7 ckF_RX11_147_3 (hC.pc x hx).2.2.2.1 ((hC.pc x hx).2.2.2.2.2.2.2.2.1.trans (if_neg hno)) ?_
          refine aw_ifnull 10 dX11_firstDoubt_10 ?_
          refine aw_aload0 13 dX11_firstDoubt_13 ?_
          refine aw_aload2 14 dX11_firstDoubt_14 ?_
          refine aw_aload2 15 dX11_firstDoubt_15 ?_
          refine aw_get 16 dX11_firstDoubt_16 ckF_RX11_147_3 (hC.pc x hx).2.2.2.1 ((hC.pc x hx).2.2.2.2.2.2.2.2.1.trans (if_neg hno)) ?_
          refine ap_v1 19 dX11_firstDoubt_19 (c_X11_voiceOf hC hx hno) ckV_RX11_215 cd_X11_voiceOf hC.xo.1 vc11 rfl rfl (Nat.le_of_ble_eq_true rfl) ⟨⟨by decide, by decide⟩, by decide, by decide⟩ rfl (fun M hv => ?_)
          replace hR := hR.trans hv.1
          replace hC := hv.2
          clear hv
          refine aw_ic2 22 dX11_firstDoubt_22 ?_
          refine aw_icmp_lt 23 31 dX11_firstDoubt_23 (by decide) (fun h23 => ?_) (fun h23 => ?_)
          · rw [if_neg (fun q => by rcases q with q | q; exact hno q; exact spk2.mp h23 q)] at hq
            refine aw_aload2 31 dX11_firstDoubt_31 ?_
            cases hnx : nx τ x with
            | none =>
              refine cr_v1 32 dX11_firstDoubt_32 (c_orN hC hx hnx) ckV_RX11_225 cd_X3_origin (hC.pc x hx).2.2.2.1 vc3 rfl rfl (Nat.le_of_ble_eq_true rfl) ⟨⟨by decide, by decide⟩, by decide, by decide⟩ rfl ?_
              refine aw_astoreN2 35 dX11_firstDoubt_35 rfl ?_
              refine aw_goto 36 2 dX11_firstDoubt_36 (by decide) ?_
              exact ih2 0 (by rw [← hdd]; exact Nat.succ_pos _) none d M rfl (fun _ q => by cases q) (Nat.zero_le _) hC hR (by rw [hq, hnx])
            | some y =>
              have hyx := nx_lt hC hx hnx
              refine cr_v1 32 dX11_firstDoubt_32 (c_orS hC hx hnx) ckV_RX11_225 cd_X3_origin (hC.pc x hx).2.2.2.1 vc3 rfl rfl (Nat.le_of_ble_eq_true rfl) ⟨⟨by decide, by decide⟩, by decide, by decide⟩ rfl ?_
              refine aw_astore2 35 dX11_firstDoubt_35 rfl ?_
              refine aw_goto 36 2 dX11_firstDoubt_36 (by decide) ?_
              exact ih2 (y + 1) (by rw [← hdd]; exact Nat.succ_lt_succ hyx) (some y) d M rfl (fun _ q => by cases q; omega) (by show y + 1 ≤ d; omega) hC hR (by rw [hq, hnx])
          · refine aw_aload2 26 dX11_firstDoubt_26 ?_
            refine aw_get 27 dX11_firstDoubt_27 ckF_RX11_103_3 (hC.pc x hx).2.2.2.1 (hC.pc x hx).2.2.2.2.1 ?_
            refine aw_iret 30 dX11_firstDoubt_30 rfl (Nat.zero_le _) (Nat.zero_le _) ?_
            refine ⟨?_, hR, hC⟩
            rw [hq]
            first
              | (rw [if_pos (Or.inl hno)]; done)
              | (rw [if_pos (Or.inr (Decidable.byContradiction (fun q => h23 (spk2.mpr q))))]; done)
  exact LP2 (p + 1) (some p) 13 M rfl (fun _ q => by cases q; exact hp) (by show p + 1 ≤ 13; omega) hC hR rfl

def rmX11_speaks : Room := { frames := 6, cells := 0, slots := 0, locals := 160 }
set_option maxHeartbeats 4000000 in
set_option maxRecDepth 100000 in
theorem n_X11_speaks {M0 : Mem} {τ : TT} {α : AT} {v : Int32} (hC : CW τ α M0) (hno : ¬ ir v (nP τ)) : CK mX11_speaks rmX11_speaks [.int v] M0 (.int (-1)) (τ) := by
  refine am_of rfl rfl (ls := [some (.ref 2), some (.int v), none]) rfl ?_
  suffices HH : ∀ M, (CW τ α M) → (Kr M0 M) → AW mX11_speaks rmX11_speaks (fun r' M' => r' = (some (.int (-1))) ∧ (fun M2 => Kr M0 M2 ∧ ∃ α2, CW (τ) α2 M2) M') 0 [some (.ref 2), some (.int v), none] [] M 0 0 from HH M0 hC (Kr.rf _)
  intro M hC hR
  refine aw_aload0 0 dX11_speaks_0 ?_
  refine aw_iload1 1 dX11_speaks_1 ?_
  refine cr_v1 2 dX11_speaks_2 (n_X11_pictureAt hC hno) ckV_RX11_106 cd_X11_pictureAt hC.xo.1 vc11 rfl rfl (Nat.le_of_ble_eq_true rfl) ⟨⟨by decide, by decide⟩, by decide, by decide⟩ rfl ?_
  refine aw_astoreN2 5 dX11_speaks_5 rfl ?_
  refine aw_aloadN2 6 dX11_speaks_6 ?_
  refine aw_ifnonnullN 7 dX11_speaks_7 ?_
  refine aw_icm1 10 dX11_speaks_10 ?_
  refine aw_iret 11 dX11_speaks_11 rfl (Nat.zero_le _) (Nat.zero_le _) ?_
  exact ⟨rfl, hR, α, hC⟩

set_option maxHeartbeats 4000000 in
set_option maxRecDepth 100000 in
theorem n3_X11_speaks {M0 : Mem} {τ : TT} {α : AT} {p : Nat} (hC : CW τ α M0) (hp : p < nP τ) (hno : τ 16 p < 0) : CK mX11_speaks rmX11_speaks [.int (nI p)] M0 (.int (-3)) (τ) := by
  refine am_of rfl rfl (ls := [some (.ref 2), some (.int (nI p)), none]) rfl ?_
  suffices HH : ∀ M, (CW τ α M) → (Kr M0 M) → AW mX11_speaks rmX11_speaks (fun r' M' => r' = (some (.int (-3))) ∧ (fun M2 => Kr M0 M2 ∧ ∃ α2, CW (τ) α2 M2) M') 0 [some (.ref 2), some (.int (nI p)), none] [] M 0 0 from HH M0 hC (Kr.rf _)
  intro M hC hR
  refine aw_aload0 0 dX11_speaks_0 ?_
  refine aw_iload1 1 dX11_speaks_1 ?_
  refine cr_v1 2 dX11_speaks_2 (c_X11_pictureAt hC hp) ckV_RX11_106 cd_X11_pictureAt hC.xo.1 vc11 rfl rfl (Nat.le_of_ble_eq_true rfl) ⟨⟨by decide, by decide⟩, by decide, by decide⟩ rfl ?_
  refine aw_astore2 5 dX11_speaks_5 rfl ?_
  refine aw_aload2 6 dX11_speaks_6 ?_
  refine aw_ifnonnull 7 12 dX11_speaks_7 (by decide) ?_
  refine aw_aload2 12 dX11_speaks_12 ?_
  refine aw_get 13 dX11_speaks_13 ckF_RX11_147_3 (hC.pc p hp).2.2.2.1 ((hC.pc p hp).2.2.2.2.2.2.2.2.1.trans (if_pos hno)) ?_
  refine aw_ifnonnullN 16 dX11_speaks_16 ?_
  refine aw_bipush 19 (-3) dX11_speaks_19 (by decide) ?_
  refine aw_goto 21 33 dX11_speaks_21 (by decide) ?_
  refine aw_iret 33 dX11_speaks_33 rfl (Nat.zero_le _) (Nat.zero_le _) ?_
  exact ⟨rfl, hR, α, hC⟩

set_option maxHeartbeats 4000000 in
set_option maxRecDepth 100000 in
theorem c_X11_speaks {M0 : Mem} {τ : TT} {α : AT} {p : Nat} (hC : CW τ α M0) (hp : p < nP τ) (hno : ¬ τ 16 p < 0) : CK mX11_speaks rmX11_speaks [.int (nI p)] M0 (.int (spk τ p)) (τ) := by
  refine am_of rfl rfl (ls := [some (.ref 2), some (.int (nI p)), none]) rfl ?_
  suffices HH : ∀ M, (CW τ α M) → (Kr M0 M) → AW mX11_speaks rmX11_speaks (fun r' M' => r' = (some (.int (spk τ p))) ∧ (fun M2 => Kr M0 M2 ∧ ∃ α2, CW (τ) α2 M2) M') 0 [some (.ref 2), some (.int (nI p)), none] [] M 0 0 from HH M0 hC (Kr.rf _)
  intro M hC hR
  refine aw_aload0 0 dX11_speaks_0 ?_
  refine aw_iload1 1 dX11_speaks_1 ?_
  refine cr_v1 2 dX11_speaks_2 (c_X11_pictureAt hC hp) ckV_RX11_106 cd_X11_pictureAt hC.xo.1 vc11 rfl rfl (Nat.le_of_ble_eq_true rfl) ⟨⟨by decide, by decide⟩, by decide, by decide⟩ rfl ?_
  refine aw_astore2 5 dX11_speaks_5 rfl ?_
  refine aw_aload2 6 dX11_speaks_6 ?_
  refine aw_ifnonnull 7 12 dX11_speaks_7 (by decide) ?_
  refine aw_aload2 12 dX11_speaks_12 ?_
  refine aw_get 13 dX11_speaks_13 ckF_RX11_147_3 (hC.pc p hp).2.2.2.1 ((hC.pc p hp).2.2.2.2.2.2.2.2.1.trans (if_neg hno)) ?_
  refine aw_ifnonnull 16 24 dX11_speaks_16 (by decide) ?_
  refine aw_aload0 24 dX11_speaks_24 ?_
  refine aw_aload2 25 dX11_speaks_25 ?_
  refine aw_aload2 26 dX11_speaks_26 ?_
  refine aw_get 27 dX11_speaks_27 ckF_RX11_147_3 (hC.pc p hp).2.2.2.1 ((hC.pc p hp).2.2.2.2.2.2.2.2.1.trans (if_neg hno)) ?_
  refine ap_v1 30 dX11_speaks_30 (c_X11_voiceOf hC hp hno) ckV_RX11_215 cd_X11_voiceOf hC.xo.1 vc11 rfl rfl (Nat.le_of_ble_eq_true rfl) ⟨⟨by decide, by decide⟩, by decide, by decide⟩ rfl (fun M hv => ?_)
  replace hR := hR.trans (hv.1.kr hC.m1 (fun b q => by unfold SC at q; omega))
  replace hC := hv.2
  refine aw_iret 33 dX11_speaks_33 rfl (Nat.zero_le _) (Nat.zero_le _) ?_
  exact ⟨rfl, hR, α, hC⟩

def rmX11_play : Room := { frames := 5, cells := 0, slots := 0, locals := 138 }
set_option maxHeartbeats 4000000 in
set_option maxRecDepth 100000 in
theorem n_X11_play {M0 : Mem} {τ : TT} {α : AT} {v : Int32} (hC : CW τ α M0) (hno : ¬ ir v (nP τ)) : CK mX11_play rmX11_play [.int v] M0 (.int (-1)) (τ) := by
  refine am_of rfl rfl (ls := [some (.ref 2), some (.int v), none, none]) rfl ?_
  suffices HH : ∀ M, (CW τ α M) → (Kr M0 M) → AW mX11_play rmX11_play (fun r' M' => r' = (some (.int (-1))) ∧ (fun M2 => Kr M0 M2 ∧ ∃ α2, CW (τ) α2 M2) M') 0 [some (.ref 2), some (.int v), none, none] [] M 0 0 from HH M0 hC (Kr.rf _)
  intro M hC hR
  refine aw_aload0 0 dX11_play_0 ?_
  refine aw_iload1 1 dX11_play_1 ?_
  refine cr_v1 2 dX11_play_2 (n_X11_pictureAt hC hno) ckV_RX11_106 cd_X11_pictureAt hC.xo.1 vc11 rfl rfl (Nat.le_of_ble_eq_true rfl) ⟨⟨by decide, by decide⟩, by decide, by decide⟩ rfl ?_
  refine aw_astoreN2 5 dX11_play_5 rfl ?_
  refine aw_aloadN2 6 dX11_play_6 ?_
  refine aw_ifnonnullN 7 dX11_play_7 ?_
  refine aw_icm1 10 dX11_play_10 ?_
  refine aw_iret 11 dX11_play_11 rfl (Nat.zero_le _) (Nat.zero_le _) ?_
  exact ⟨rfl, hR, α, hC⟩

set_option maxHeartbeats 4000000 in
set_option maxRecDepth 100000 in
theorem n3_X11_play {M0 : Mem} {τ : TT} {α : AT} {p : Nat} (hC : CW τ α M0) (hp : p < nP τ) (hno : τ 16 p < 0) : CK mX11_play rmX11_play [.int (nI p)] M0 (.int (-3)) (τ) := by
  refine am_of rfl rfl (ls := [some (.ref 2), some (.int (nI p)), none, none]) rfl ?_
  suffices HH : ∀ M, (CW τ α M) → (Kr M0 M) → AW mX11_play rmX11_play (fun r' M' => r' = (some (.int (-3))) ∧ (fun M2 => Kr M0 M2 ∧ ∃ α2, CW (τ) α2 M2) M') 0 [some (.ref 2), some (.int (nI p)), none, none] [] M 0 0 from HH M0 hC (Kr.rf _)
  intro M hC hR
  refine aw_aload0 0 dX11_play_0 ?_
  refine aw_iload1 1 dX11_play_1 ?_
  refine cr_v1 2 dX11_play_2 (c_X11_pictureAt hC hp) ckV_RX11_106 cd_X11_pictureAt hC.xo.1 vc11 rfl rfl (Nat.le_of_ble_eq_true rfl) ⟨⟨by decide, by decide⟩, by decide, by decide⟩ rfl ?_
  refine aw_astore2 5 dX11_play_5 rfl ?_
  refine aw_aload2 6 dX11_play_6 ?_
  refine aw_ifnonnull 7 12 dX11_play_7 (by decide) ?_
  refine aw_aload2 12 dX11_play_12 ?_
  refine aw_get 13 dX11_play_13 ckF_RX11_147_3 (hC.pc p hp).2.2.2.1 ((hC.pc p hp).2.2.2.2.2.2.2.2.1.trans (if_pos hno)) ?_
  refine aw_astoreN3 16 dX11_play_16 rfl ?_
  refine aw_aloadN3 17 dX11_play_17 ?_
  refine aw_ifnullN 18 29 dX11_play_18 (by decide) ?_
  refine aw_bipush 29 (-3) dX11_play_29 (by decide) ?_
  refine aw_iret 31 dX11_play_31 rfl (Nat.zero_le _) (Nat.zero_le _) ?_
  exact ⟨rfl, hR, α, hC⟩

set_option maxHeartbeats 4000000 in
set_option maxRecDepth 100000 in
theorem c0_X11_play {M0 : Mem} {τ : TT} {α : AT} {p : Nat} (hC : CW τ α M0) (hp : p < nP τ) (hk : τ 16 p = 0) : CK mX11_play rmX11_play [.int (nI p)] M0 (.int (-3)) (τ) := by
  refine am_of rfl rfl (ls := [some (.ref 2), some (.int (nI p)), none, none]) rfl ?_
  suffices HH : ∀ M, (CW τ α M) → (Kr M0 M) → AW mX11_play rmX11_play (fun r' M' => r' = (some (.int (-3))) ∧ (fun M2 => Kr M0 M2 ∧ ∃ α2, CW (τ) α2 M2) M') 0 [some (.ref 2), some (.int (nI p)), none, none] [] M 0 0 from HH M0 hC (Kr.rf _)
  intro M hC hR
  have hno : ¬ τ 16 p < 0 := by rw [hk]; decide
  have hN := (hC.nc p hp hno).k0 hk
  refine aw_aload0 0 dX11_play_0 ?_
  refine aw_iload1 1 dX11_play_1 ?_
  refine cr_v1 2 dX11_play_2 (c_X11_pictureAt hC hp) ckV_RX11_106 cd_X11_pictureAt hC.xo.1 vc11 rfl rfl (Nat.le_of_ble_eq_true rfl) ⟨⟨by decide, by decide⟩, by decide, by decide⟩ rfl ?_
  refine aw_astore2 5 dX11_play_5 rfl ?_
  refine aw_aload2 6 dX11_play_6 ?_
  refine aw_ifnonnull 7 12 dX11_play_7 (by decide) ?_
  refine aw_aload2 12 dX11_play_12 ?_
  refine aw_get 13 dX11_play_13 ckF_RX11_147_3 (hC.pc p hp).2.2.2.1 ((hC.pc p hp).2.2.2.2.2.2.2.2.1.trans (if_neg hno)) ?_
  refine aw_astore3 16 dX11_play_16 rfl ?_
  refine aw_aload3 17 dX11_play_17 ?_
  refine aw_ifnull 18 dX11_play_18 ?_
  refine aw_aload3 21 dX11_play_21 ?_
  refine cr_u1 (rr := (RX7, TX7, 3)) (owner := RX7) (y := ⟨RX7, "kind", "()I"⟩) 22 dX11_play_22 c_X7_kind ckU_RX11_199_7 cd_X7_kind cd_X7_kind hN.2.1 vc7 rfl (Nat.le_of_ble_eq_true rfl) ⟨⟨by decide, by decide⟩, by decide, by decide⟩ rfl ?_
  refine aw_ic1 25 dX11_play_25 ?_
  refine aw_icmp_eqN 26 32 (0) (1) dX11_play_26 (by decide) rfl rfl (by decide) (by decide) (fun h => absurd h (by decide)) (fun _ => ?_)
  refine aw_bipush 29 (-3) dX11_play_29 (by decide) ?_
  refine aw_iret 31 dX11_play_31 rfl (Nat.zero_le _) (Nat.zero_le _) ?_
  exact ⟨rfl, hR, α, hC⟩

set_option maxHeartbeats 4000000 in
set_option maxRecDepth 100000 in
theorem c1_X11_play {M0 : Mem} {τ : TT} {α : AT} {p : Nat} (hC : CW τ α M0) (hp : p < nP τ) (hk : τ 16 p = 1) : CK mX11_play rmX11_play [.int (nI p)] M0 (.int (plR τ p)) (τ) := by
  refine am_of rfl rfl (ls := [some (.ref 2), some (.int (nI p)), none, none]) rfl ?_
  suffices HH : ∀ M, (CW τ α M) → (Kr M0 M) → AW mX11_play rmX11_play (fun r' M' => r' = (some (.int (plR τ p))) ∧ (fun M2 => Kr M0 M2 ∧ ∃ α2, CW (τ) α2 M2) M') 0 [some (.ref 2), some (.int (nI p)), none, none] [] M 0 0 from HH M0 hC (Kr.rf _)
  intro M hC hR
  have hno : ¬ τ 16 p < 0 := by rw [hk]; decide
  have hN := (hC.nc p hp hno).k1 hk
  refine aw_aload0 0 dX11_play_0 ?_
  refine aw_iload1 1 dX11_play_1 ?_
  refine cr_v1 2 dX11_play_2 (c_X11_pictureAt hC hp) ckV_RX11_106 cd_X11_pictureAt hC.xo.1 vc11 rfl rfl (Nat.le_of_ble_eq_true rfl) ⟨⟨by decide, by decide⟩, by decide, by decide⟩ rfl ?_
  refine aw_astore2 5 dX11_play_5 rfl ?_
  refine aw_aload2 6 dX11_play_6 ?_
  refine aw_ifnonnull 7 12 dX11_play_7 (by decide) ?_
  refine aw_aload2 12 dX11_play_12 ?_
  refine aw_get 13 dX11_play_13 ckF_RX11_147_3 (hC.pc p hp).2.2.2.1 ((hC.pc p hp).2.2.2.2.2.2.2.2.1.trans (if_neg hno)) ?_
  refine aw_astore3 16 dX11_play_16 rfl ?_
  refine aw_aload3 17 dX11_play_17 ?_
  refine aw_ifnull 18 dX11_play_18 ?_
  refine aw_aload3 21 dX11_play_21 ?_
  refine cr_u1 (rr := (RX0, TX0, 5)) (owner := RX7) (y := ⟨RX7, "kind", "()I"⟩) 22 dX11_play_22 c_X0_kind ckU_RX11_199_0 cd_X0_kind cd_X7_kind hN.2.1 vc0 rfl (Nat.le_of_ble_eq_true rfl) ⟨⟨by decide, by decide⟩, by decide, by decide⟩ rfl ?_
  refine aw_ic1 25 dX11_play_25 ?_
  refine aw_icmp_eqN 26 32 (1) (1) dX11_play_26 (by decide) rfl rfl (by decide) (by decide) (fun _ => ?_) (fun h => absurd h (by decide))
  refine aw_aload0 32 dX11_play_32 ?_
  refine aw_aload2 33 dX11_play_33 ?_
  refine aw_aload3 34 dX11_play_34 ?_
  refine ap_v1 35 dX11_play_35 (c_X11_firstFarPlace hC hp hN) ckV_RX11_219 cd_X11_firstFarPlace hC.xo.1 vc11 rfl rfl (Nat.le_of_ble_eq_true rfl) ⟨⟨by decide, by decide⟩, by decide, by decide⟩ rfl (fun M hv => ?_)
  replace hR := hR.trans (hv.1.kr hC.m1 (fun b q => by unfold SC at q; omega))
  replace hC := hv.2
  refine aw_iret 38 dX11_play_38 rfl (Nat.zero_le _) (Nat.zero_le _) ?_
  exact ⟨rfl, hR, α, hC⟩

set_option maxHeartbeats 4000000 in
set_option maxRecDepth 100000 in
theorem c2_X11_play {M0 : Mem} {τ : TT} {α : AT} {p : Nat} (hC : CW τ α M0) (hp : p < nP τ) (hk : τ 16 p = 2) : CK mX11_play rmX11_play [.int (nI p)] M0 (.int (-3)) (τ) := by
  refine am_of rfl rfl (ls := [some (.ref 2), some (.int (nI p)), none, none]) rfl ?_
  suffices HH : ∀ M, (CW τ α M) → (Kr M0 M) → AW mX11_play rmX11_play (fun r' M' => r' = (some (.int (-3))) ∧ (fun M2 => Kr M0 M2 ∧ ∃ α2, CW (τ) α2 M2) M') 0 [some (.ref 2), some (.int (nI p)), none, none] [] M 0 0 from HH M0 hC (Kr.rf _)
  intro M hC hR
  have hno : ¬ τ 16 p < 0 := by rw [hk]; decide
  have hN := (hC.nc p hp hno).k2 hk
  refine aw_aload0 0 dX11_play_0 ?_
  refine aw_iload1 1 dX11_play_1 ?_
  refine cr_v1 2 dX11_play_2 (c_X11_pictureAt hC hp) ckV_RX11_106 cd_X11_pictureAt hC.xo.1 vc11 rfl rfl (Nat.le_of_ble_eq_true rfl) ⟨⟨by decide, by decide⟩, by decide, by decide⟩ rfl ?_
  refine aw_astore2 5 dX11_play_5 rfl ?_
  refine aw_aload2 6 dX11_play_6 ?_
  refine aw_ifnonnull 7 12 dX11_play_7 (by decide) ?_
  refine aw_aload2 12 dX11_play_12 ?_
  refine aw_get 13 dX11_play_13 ckF_RX11_147_3 (hC.pc p hp).2.2.2.1 ((hC.pc p hp).2.2.2.2.2.2.2.2.1.trans (if_neg hno)) ?_
  refine aw_astore3 16 dX11_play_16 rfl ?_
  refine aw_aload3 17 dX11_play_17 ?_
  refine aw_ifnull 18 dX11_play_18 ?_
  refine aw_aload3 21 dX11_play_21 ?_
  refine cr_u1 (rr := (RX6, TX6, 5)) (owner := RX7) (y := ⟨RX7, "kind", "()I"⟩) 22 dX11_play_22 c_X6_kind ckU_RX11_199_6 cd_X6_kind cd_X7_kind hN.2.1 vc6 rfl (Nat.le_of_ble_eq_true rfl) ⟨⟨by decide, by decide⟩, by decide, by decide⟩ rfl ?_
  refine aw_ic1 25 dX11_play_25 ?_
  refine aw_icmp_eqN 26 32 (2) (1) dX11_play_26 (by decide) rfl rfl (by decide) (by decide) (fun h => absurd h (by decide)) (fun _ => ?_)
  refine aw_bipush 29 (-3) dX11_play_29 (by decide) ?_
  refine aw_iret 31 dX11_play_31 rfl (Nat.zero_le _) (Nat.zero_le _) ?_
  exact ⟨rfl, hR, α, hC⟩

def rmX11_doubt : Room := { frames := 7, cells := 0, slots := 0, locals := 182 }
set_option maxHeartbeats 4000000 in
set_option maxRecDepth 100000 in
theorem n_X11_doubt {M0 : Mem} {τ : TT} {α : AT} {v : Int32} (hC : CW τ α M0) (hno : ¬ ir v (nP τ)) : CK mX11_doubt rmX11_doubt [.int v] M0 (.int (-1)) (τ) := by
  refine am_of rfl rfl (ls := [some (.ref 2), some (.int v), none]) rfl ?_
  suffices HH : ∀ M, (CW τ α M) → (Kr M0 M) → AW mX11_doubt rmX11_doubt (fun r' M' => r' = (some (.int (-1))) ∧ (fun M2 => Kr M0 M2 ∧ ∃ α2, CW (τ) α2 M2) M') 0 [some (.ref 2), some (.int v), none] [] M 0 0 from HH M0 hC (Kr.rf _)
  intro M hC hR
  refine aw_aload0 0 dX11_doubt_0 ?_
  refine aw_iload1 1 dX11_doubt_1 ?_
  refine cr_v1 2 dX11_doubt_2 (n_X11_pictureAt hC hno) ckV_RX11_106 cd_X11_pictureAt hC.xo.1 vc11 rfl rfl (Nat.le_of_ble_eq_true rfl) ⟨⟨by decide, by decide⟩, by decide, by decide⟩ rfl ?_
  refine aw_astoreN2 5 dX11_doubt_5 rfl ?_
  refine aw_aloadN2 6 dX11_doubt_6 ?_
  refine aw_ifnonnullN 7 dX11_doubt_7 ?_
  refine aw_icm1 10 dX11_doubt_10 ?_
  refine aw_goto 11 19 dX11_doubt_11 (by decide) ?_
  refine aw_iret 19 dX11_doubt_19 rfl (Nat.zero_le _) (Nat.zero_le _) ?_
  exact ⟨rfl, hR, α, hC⟩

set_option maxHeartbeats 4000000 in
set_option maxRecDepth 100000 in
theorem c_X11_doubt {M0 : Mem} {τ : TT} {α : AT} {p : Nat} (hC : CW τ α M0) (hp : p < nP τ) : CK mX11_doubt rmX11_doubt [.int (nI p)] M0 (.int (dbt τ p)) (τ) := by
  refine am_of rfl rfl (ls := [some (.ref 2), some (.int (nI p)), none]) rfl ?_
  suffices HH : ∀ M, (CW τ α M) → (Kr M0 M) → AW mX11_doubt rmX11_doubt (fun r' M' => r' = (some (.int (dbt τ p))) ∧ (fun M2 => Kr M0 M2 ∧ ∃ α2, CW (τ) α2 M2) M') 0 [some (.ref 2), some (.int (nI p)), none] [] M 0 0 from HH M0 hC (Kr.rf _)
  intro M hC hR
  refine aw_aload0 0 dX11_doubt_0 ?_
  refine aw_iload1 1 dX11_doubt_1 ?_
  refine cr_v1 2 dX11_doubt_2 (c_X11_pictureAt hC hp) ckV_RX11_106 cd_X11_pictureAt hC.xo.1 vc11 rfl rfl (Nat.le_of_ble_eq_true rfl) ⟨⟨by decide, by decide⟩, by decide, by decide⟩ rfl ?_
  refine aw_astore2 5 dX11_doubt_5 rfl ?_
  refine aw_aload2 6 dX11_doubt_6 ?_
  refine aw_ifnonnull 7 14 dX11_doubt_7 (by decide) ?_
  refine aw_aload0 14 dX11_doubt_14 ?_
  refine aw_aload2 15 dX11_doubt_15 ?_
  refine ap_v1 16 dX11_doubt_16 (c_X11_firstDoubt hC hp) ckV_RX11_226 cd_X11_firstDoubt hC.xo.1 vc11 rfl rfl (Nat.le_of_ble_eq_true rfl) ⟨⟨by decide, by decide⟩, by decide, by decide⟩ rfl (fun M hv => ?_)
  replace hR := hR.trans (hv.1.kr hC.m1 (fun b q => by unfold SC at q; omega))
  replace hC := hv.2
  refine aw_iret 19 dX11_doubt_19 rfl (Nat.zero_le _) (Nat.zero_le _) ?_
  exact ⟨rfl, hR, α, hC⟩

