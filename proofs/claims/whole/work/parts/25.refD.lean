/-! the reference: played, speaking, the way (rows laid by gen/refD.py) -/
/-- rows that no answer shows -/
abbrev scr (i : Nat) : Prop := i = 5 ∨ i = 6 ∨ i = 7 ∨ i = 8 ∨ i = 9 ∨ i = 10 ∨ i = 11 ∨ i = 12 ∨ i = 31
def Obs (σ τ : TT) : Prop := ∀ i, ¬ scr i → σ i = τ i
theorem Obs.rf (τ : TT) : Obs τ τ := fun _ _ => rfl
theorem Obs.trans {a b c : TT} (h : Obs a b) (g : Obs b c) : Obs a c := fun i hi => (h i hi).trans (g i hi)
theorem Obs.symm {a b : TT} (h : Obs a b) : Obs b a := fun i hi => (h i hi).symm
def RE (Z : YY) (rm : Room) (as : List Value) (τ : TT) (r : Option Value) (τ' : TT) : Prop := ∀ M, RW τ M → AM Z rm (.ref 25 :: as) M (fun r' M' => r' = r ∧ ∃ σ, RO σ M M' ∧ Obs σ τ')
theorem RD.toRE {Z : YY} {rm : Room} {as : List Value} {τ τ' τ2 : TT} {r : Option Value} (h : RD Z rm as τ r τ') (ho : Obs τ' τ2) : RE Z rm as τ r τ2 := fun M hM => am_mono (fun r' N q => ⟨q.1, _, q.2, ho⟩) (h M hM)
section
variable {Y : YY} {R : Room} {Q : Option Value → Mem → Prop} {ls : List (Option Value)} {st : List Value} {M M0 : Mem} {cs ss : Nat} {τ : TT}
theorem re_call1 (pc : Nat) {Z : YY} {rm : Room} {as st0 : List Value} {r : Value} {τ' : TT} {idx : Nat} (hd : decode Y.2.1 pc = .ok (.invokevirtual idx, 3)) (hM : RE Z rm as τ (some r) τ') (ck : ckV Y.1.cls idx Z as.length = true) (hcd : inTbl Z) (hcl : Z.1.cls = RX12) (hW : RO τ M0 M) (hst : st0 = as.reverse ++ .ref 25 :: st) (hw : (st.map fun v => v.category).sum ≤ 8) (hR1 : rmOK R rm Z cs ss) (hz : (rm.cells, rm.slots) = (0, 0))
    (kk : ∀ σ M, Obs σ τ' → RO σ M0 M → AW Y R Q (pc + 3) ls (r :: st) M cs ss) : AW Y R Q pc ls st0 M cs ss :=
  aw_virt pc hd ck hcd hW.1.1 (show vwCl[12]? = some (RX12, TX12, 33) from rfl) hcl (hM M hW.1) hst hw hR1 (fun r' M' q => by
    obtain ⟨rfl, σ, q2, q3⟩ := q
    rw [(Prod.mk.inj hz).1, (Prod.mk.inj hz).2]
    exact kk σ M' q3 ⟨q2.1, hW.2.trans q2.2⟩)
end
theorem Obs.WPe {σ τ : TT} (h : Obs σ τ) (w : WP τ) : WP σ := w.of (h 1 (by decide)) (h 2 (by decide)) (h 3 (by decide))
theorem Obs.nPe {σ τ : TT} (h : Obs σ τ) : nP σ = nP τ := by unfold nP; rw [h 1 (by decide)]
theorem Obs.wde {σ τ : TT} (h : Obs σ τ) (p : Nat) : wd σ p = wd τ p := by unfold wd; rw [h 2 (by decide)]
theorem Obs.hge {σ τ : TT} (h : Obs σ τ) (p : Nat) : hg σ p = hg τ p := by unfold hg; rw [h 3 (by decide)]
theorem Obs.nLe {σ τ : TT} (h : Obs σ τ) : nL σ = nL τ := by unfold nL; rw [h 13 (by decide)]
theorem Obs.nKe {σ τ : TT} (h : Obs σ τ) : nK σ = nK τ := by unfold nK; rw [h 24 (by decide)]
theorem Obs.leafe {σ τ : TT} (h : Obs σ τ) (p : Nat) : leaf σ p = leaf τ p := by
  funext j
  unfold leaf thr
  rw [h.wde, h.hge, h 4 (by decide)]
theorem Obs.hOfe {σ τ : TT} (h : Obs σ τ) (p : Nat) : hOf σ p = hOf τ p := by
  unfold hOf
  rw [h.wde, h.hge, h 4 (by decide)]
theorem Obs.slve {σ τ : TT} (h : Obs σ τ) (p l : Nat) (t : Int32) : slv σ p l t = slv τ p l t := by
  unfold slv
  rw [h.leafe, h 14 (by decide), h 2 (by decide), h 3 (by decide)]
theorem lay_obs {τ : TT} {p : Nat} : Obs (lay τ p) τ := fun i hi => ov_ne (fun e => hi (Or.inl e))
theorem tih_obs {τ : TT} {p : Nat} : Obs (tih τ p) τ := fun i hi => tih_ne (by omega)
theorem dAs_obs {f fr : Nat} {τ : TT} {n : Nat} : Obs (dAs f fr τ n).2 τ := fun i hi => dAs_ne (by omega)
/-- lines -/
def lnOK (τ : TT) (p : Nat) : Prop := (τ 16 p = 0 ∨ τ 16 p = 1 ∨ τ 16 p = 2) ∧ (∃ l, l < nL τ ∧ τ 17 p = nI l) ∧ (∃ h, h < 1000 ∧ τ 18 p = nI h) ∧ (¬ τ 16 p = 0 → ∃ f, f < p ∧ τ 20 p = nI f) ∧ (τ 16 p = 1 → ∃ a, a ≤ 5 ∧ τ 21 p = nI a ∧ ∀ j, j < a → actOK (τ 22) (25 * p + 5 * j))
def WN (τ : TT) : Prop := ∀ p, p < nP τ → τ 16 p = -9 ∨ lnOK τ p
theorem Obs.WNe {σ τ : TT} (h : Obs σ τ) (w : WN τ) : WN σ := by
  unfold WN lnOK at *
  rw [h.nPe, h.nLe, h 16 (by decide), h 17 (by decide), h 18 (by decide), h 20 (by decide), h 21 (by decide), h 22 (by decide)]
  exact w
theorem Obs.WLe {σ τ : TT} (h : Obs σ τ) (w : WL τ) : WL σ := by
  unfold WL at *
  rw [h.nLe, h 13 (by decide)]
  exact w
abbrev bad (g : Nat → Int32) (τ : TT) (p k : Nat) : Prop := thr τ p k ∧ τ 23 0 < szO (g k - τ 4 (16 * p + k))
def ffp (g : Nat → Int32) (τ : TT) (p : Nat) : Nat → Nat → Int32
  | 0, _ => -9
  | d + 1, k => if bad g τ p k then nI k else ffp g τ p d (k + 1)
theorem ffp_s {g : Nat → Int32} {τ : TT} {p d k : Nat} : ffp g τ p (d + 1) k = if bad g τ p k then nI k else ffp g τ p d (k + 1) := rfl
def plR (τ : TT) (p : Nat) : Int32 := (dH (τ 22) (25 * p) (hOf τ (dgt (τ 20) p)) (dgt (τ 21) p)).elim (-20) (fun u => if ¬ (u.2.1 = wd τ p ∧ u.2.2 = hg τ p) then -21 else ffp u.1 τ p 16 0)
theorem Obs.ffpe {σ τ : TT} (h : Obs σ τ) (g : Nat → Int32) (p : Nat) : ∀ d k, ffp g σ p d k = ffp g τ p d k
  | 0, _ => rfl
  | d + 1, k => by
    rw [ffp_s, ffp_s, h.ffpe g p d (k + 1)]
    unfold bad thr
    rw [h.wde, h.hge, h 23 (by decide), h 4 (by decide)]
theorem Obs.plRe {σ τ : TT} (h : Obs σ τ) (p : Nat) : plR σ p = plR τ p := by
  unfold plR
  rw [h 22 (by decide), h 20 (by decide), h 21 (by decide), h.hOfe, h.wde, h.hge]
  congr 1
  funext u
  rw [h.ffpe]

def rmX12_played : Room := { frames := 3, cells := 0, slots := 0, locals := 70 }
set_option maxHeartbeats 4000000 in
set_option maxRecDepth 100000 in
theorem c_X12_played {τ : TT} {p : Nat} (hw : WP τ) (hp : p < nP τ) (hln : lnOK τ p) (hk1 : τ 16 p = 1) : RE mX12_played rmX12_played [.int (nI p)] τ (some (.int (plR τ p))) (τ) := by
  intro M0 hW0
  refine am_of rfl rfl (ls := [some (.ref 25), some (.int (nI p)), none]) rfl ?_
  suffices HH : ∀ M, RO τ M0 M → AW mX12_played rmX12_played (fun r' M' => r' = (some (.int (plR τ p))) ∧ ∃ σ, RO σ M0 M' ∧ Obs σ (τ)) 0 [some (.ref 25), some (.int (nI p)), none] [] M 0 0 from HH M0 ⟨hW0, Off.rf M0⟩
  intro M hW
  have hn12 := hw.1.1
  have hwd := (hw.2 p hp).1
  have hhg := (hw.2 p hp).2
  obtain ⟨fo, hfo, hfo2⟩ := hln.2.2.2.1 (by rw [hk1]; decide)
  obtain ⟨a, ha5, ha2, hact⟩ := hln.2.2.2.2 hk1
  have hff : fo < nP τ := by omega
  obtain ⟨hHR, hwh⟩ := tih_HR hw hff
  have e20 : dgt (τ 20) p = fo := by unfold dgt; rw [hfo2, nI_clamp (by omega)]
  have e21 : dgt (τ 21) p = a := by unfold dgt; rw [ha2, nI_clamp (by omega)]
  have hrel := dAs_rel (f := 22) (fr := 25 * p) hHR hwh (Or.inr rfl) a
  rw [show tih τ fo 22 = τ 22 from tih_ne (by decide)] at hrel
  have hcon := c_X12_doActs (τ := tih τ fo) (f := 22) (fr := 25 * p) (n := a) (Or.inr rfl) ha5 (show 25 * p + 5 * a ≤ 300 by omega) hwh (by rw [show tih τ fo 22 = τ 22 from tih_ne (by decide)]; exact hact)
  have hobs : Obs (dAs 22 (25 * p) (tih τ fo) a).2 τ := dAs_obs.trans tih_obs
  unfold plR
  rw [e20, e21]
  cases hd : dH (τ 22) (25 * p) (hOf τ fo) a with
  | none =>
    have hfalse := hrel.2 hd
    replace hcon := rd_rt hcon (bi_f (by rw [hfalse]; exact Bool.false_ne_true)) rfl
    refine aw_aload0 0 dX12_played_0 ?_
    refine aw_aload0 1 dX12_played_1 ?_
    refine rw_ga 2 20 dX12_played_2 ckF_RX12_49_12 (by decide) (by decide) hW ?_
    refine aw_iload1 5 dX12_played_5 ?_
    refine rw_ld 6 20 (p) dX12_played_6 hW rfl (show p < 12 by omega) ?_
    refine aw_topi (w := nI fo) (hfo2) ?_
    refine rw_call0 7 dX12_played_7 (c_X12_takeInHand (p := fo) (by omega)) ckV_RX12_204 cd_X12_takeInHand rfl hW rfl (Nat.le_of_ble_eq_true rfl) ⟨⟨by decide, by decide⟩, by decide, by decide⟩ rfl (fun M hW => ?_)
    refine aw_aload0 10 dX12_played_10 ?_
    refine aw_aload0 11 dX12_played_11 ?_
    refine rw_ga 12 22 dX12_played_12 ckF_RX12_55_12 (by decide) (by decide) hW ?_
    refine aw_bipush 15 25 dX12_played_15 (by decide) ?_
    refine aw_iload1 17 dX12_played_17 ?_
    refine aw_imulN 18 (25) (p) dX12_played_18 rfl rfl ?_
    refine aw_aload0 19 dX12_played_19 ?_
    refine rw_ga 20 21 dX12_played_20 ckF_RX12_52_12 (by decide) (by decide) hW ?_
    refine aw_iload1 23 dX12_played_23 ?_
    refine rw_ld 24 21 (p) dX12_played_24 hW rfl (show p < 12 by omega) ?_
    refine aw_topi (w := nI a) (show tih τ fo 21 p = nI a by rw [tih_ne (by decide)]; exact ha2) ?_
    refine rw_call1 25 dX12_played_25 hcon ckV_RX12_207 cd_X12_doActs rfl hW rfl (Nat.le_of_ble_eq_true rfl) ⟨⟨by decide, by decide⟩, by decide, by decide⟩ rfl (fun M hW => ?_)
    refine aw_if_neN 28 34 (0) dX12_played_28 (by decide) rfl (by decide) (fun h => absurd h (by decide)) (fun _ => ?_)
    refine aw_bipush 31 (-20) dX12_played_31 (by decide) ?_
    refine aw_iret 33 dX12_played_33 rfl (Nat.zero_le _) (Nat.zero_le _) ?_
    exact ⟨rfl, _, hW, hobs⟩
  | some u =>
    obtain ⟨htrue, hHu⟩ := hrel.1 u hd
    obtain ⟨σ, hσ⟩ : ∃ σ, (dAs 22 (25 * p) (tih τ fo) a).2 = σ := ⟨_, rfl⟩
    have hwσ := dAs_WH (f := 22) (fr := 25 * p) (n := a) hwh
    rw [hσ] at hHu hobs hwσ
    replace hcon := rd_rt hcon (bi_t htrue) hσ
    have h9 : σ 9 0 = nI u.2.1 := by rw [← hHu.2.1]; exact hwσ.1.1
    have h10 : σ 10 0 = nI u.2.2 := by rw [← hHu.2.2]; exact hwσ.2.1
    have hu9 : u.2.1 ≤ 4 ∧ u.2.2 ≤ 4 := by rw [← hHu.2.1, ← hHu.2.2]; exact ⟨hwσ.1.2.2, hwσ.2.2.2⟩
    have h2 : σ 2 p = nI (wd τ p) := by rw [hobs 2 (by decide)]; exact hwd.2.2
    have h3 : σ 3 p = nI (hg τ p) := by rw [hobs 3 (by decide)]; exact hhg.2.2
    have hw1 : WP σ := hobs.WPe hw
    have hp1 : p < nP σ := by rw [hobs.nPe]; exact hp
    show AW _ _ (fun r' M' => r' = some (.int (if ¬ (u.2.1 = wd τ p ∧ u.2.2 = hg τ p) then -21 else ffp u.1 τ p 16 0)) ∧ ∃ σ, RO σ M0 M' ∧ Obs σ τ) _ _ _ _ _ _
    refine aw_aload0 0 dX12_played_0 ?_
    refine aw_aload0 1 dX12_played_1 ?_
    refine rw_ga 2 20 dX12_played_2 ckF_RX12_49_12 (by decide) (by decide) hW ?_
    refine aw_iload1 5 dX12_played_5 ?_
    refine rw_ld 6 20 (p) dX12_played_6 hW rfl (show p < 12 by omega) ?_
    refine aw_topi (w := nI fo) (hfo2) ?_
    refine rw_call0 7 dX12_played_7 (c_X12_takeInHand (p := fo) (by omega)) ckV_RX12_204 cd_X12_takeInHand rfl hW rfl (Nat.le_of_ble_eq_true rfl) ⟨⟨by decide, by decide⟩, by decide, by decide⟩ rfl (fun M hW => ?_)
    refine aw_aload0 10 dX12_played_10 ?_
    refine aw_aload0 11 dX12_played_11 ?_
    refine rw_ga 12 22 dX12_played_12 ckF_RX12_55_12 (by decide) (by decide) hW ?_
    refine aw_bipush 15 25 dX12_played_15 (by decide) ?_
    refine aw_iload1 17 dX12_played_17 ?_
    refine aw_imulN 18 (25) (p) dX12_played_18 rfl rfl ?_
    refine aw_aload0 19 dX12_played_19 ?_
    refine rw_ga 20 21 dX12_played_20 ckF_RX12_52_12 (by decide) (by decide) hW ?_
    refine aw_iload1 23 dX12_played_23 ?_
    refine rw_ld 24 21 (p) dX12_played_24 hW rfl (show p < 12 by omega) ?_
    refine aw_topi (w := nI a) (show tih τ fo 21 p = nI a by rw [tih_ne (by decide)]; exact ha2) ?_
    refine rw_call1 25 dX12_played_25 hcon ckV_RX12_207 cd_X12_doActs rfl hW rfl (Nat.le_of_ble_eq_true rfl) ⟨⟨by decide, by decide⟩, by decide, by decide⟩ rfl (fun M hW => ?_)
    refine aw_if_neN 28 34 (1) dX12_played_28 (by decide) rfl (by decide) (fun _ => ?_) (fun h => absurd h (by decide))
    refine aw_aload0 34 dX12_played_34 ?_
    refine rw_gi 35 9 dX12_played_35 ckF_RX12_178_12 (by decide) rfl hW ?_
    refine aw_topi (w := nI u.2.1) (h9) ?_
    refine aw_aload0 38 dX12_played_38 ?_
    refine rw_ga 39 2 dX12_played_39 ckF_RX12_7_12 (by decide) (by decide) hW ?_
    refine aw_iload1 42 dX12_played_42 ?_
    refine rw_ld 43 2 (p) dX12_played_43 hW rfl (show p < 12 by omega) ?_
    refine aw_topi (w := nI (wd τ p)) (h2) ?_
    refine aw_icmp_neN 44 60 (u.2.1) (wd τ p) dX12_played_44 (by decide) rfl rfl (by omega) (by omega) (fun h44 => ?_) (fun h44 => ?_)
    · refine aw_bipush 60 (-21) dX12_played_60 (by decide) ?_
      refine aw_iret 62 dX12_played_62 rfl (Nat.zero_le _) (Nat.zero_le _) ?_
      refine ⟨?_, _, hW, hobs⟩
      first
        | (rw [if_pos (nl h44)]; done)
        | (rw [if_pos (nr h57)]; done)
    · refine aw_aload0 47 dX12_played_47 ?_
      refine rw_gi 48 10 dX12_played_48 ckF_RX12_181_12 (by decide) rfl hW ?_
      refine aw_topi (w := nI u.2.2) (h10) ?_
      refine aw_aload0 51 dX12_played_51 ?_
      refine rw_ga 52 3 dX12_played_52 ckF_RX12_13_12 (by decide) (by decide) hW ?_
      refine aw_iload1 55 dX12_played_55 ?_
      refine rw_ld 56 3 (p) dX12_played_56 hW rfl (show p < 12 by omega) ?_
      refine aw_topi (w := nI (hg τ p)) (h3) ?_
      refine aw_icmp_eqN 57 63 (u.2.2) (hg τ p) dX12_played_57 (by decide) rfl rfl (by omega) (by omega) (fun h57 => ?_) (fun h57 => ?_)
      · rw [if_neg (nn (And.intro h44 h57))]
        suffices HS : ∀ v, v = ffp u.1 τ p 16 0 → AW mX12_played rmX12_played (fun r' M' => r' = some (.int v) ∧ ∃ σ, RO σ M0 M' ∧ Obs σ τ) 63 [some (.ref 25), some (.int (nI p)), none] [] M 0 0 from HS _ rfl
        intro v hv
        refine aw_ic0 63 dX12_played_63 ?_
        refine aw_istore2 64 dX12_played_64 rfl ?_
        have LP65 : ∀ (dd : Nat) (k : Nat) (M : Mem), 16 - k = dd → (k ≤ 16) → (v = ffp u.1 τ p (16 - k) k) → (RO σ M0 M) → AW mX12_played rmX12_played (fun r' M' => r' = some (.int v) ∧ ∃ σ, RO σ M0 M' ∧ Obs σ τ) 65 [some (.ref 25), some (.int (nI p)), some (.int (nI k))] [] M 0 0 := by
          intro dd
          induction dd using Nat.strongRecOn with
          | _ dd ih65 =>
            intro k M hdd hk hv hW
            refine aw_iload2 65 dX12_played_65 ?_
            refine aw_bipush 66 16 dX12_played_66 (by decide) ?_
            refine aw_icmp_geN 68 116 (k) (16) dX12_played_68 (by decide) rfl rfl (by omega) (by omega) (fun h68 => ?_) (fun h68 => ?_)
            · refine aw_bipush 116 (-9) dX12_played_116 (by decide) ?_
              refine aw_iret 118 dX12_played_118 rfl (Nat.zero_le _) (Nat.zero_le _) ?_
              have he : k = 16 := by omega
              subst he
              exact ⟨by rw [hv]; rfl, _, hW, hobs⟩
            · refine aw_aload0 71 dX12_played_71 ?_
              refine aw_iload1 72 dX12_played_72 ?_
              refine aw_iload2 73 dX12_played_73 ?_
              refine rw_call1 74 dX12_played_74 (show RD mX12_isThere rmX12_isThere [.int (nI p), .int (nI k)] σ (some (.int (bi (thr τ p k)))) σ from rd_r (c_isThereN hw1 hp1 (k := k) (by omega)) (bi_congr (by unfold thr; rw [hobs.wde, hobs.hge]))) ckV_RX12_135 cd_X12_isThere rfl hW rfl (Nat.le_of_ble_eq_true rfl) ⟨⟨by decide, by decide⟩, by decide, by decide⟩ rfl (fun M hW => ?_)
              refine aw_ifeq_b 77 110 dX12_played_77 (by decide) (fun h77 => ?_) (fun h77 => ?_)
              · obtain ⟨d, hdk⟩ : ∃ d, 16 - k = d + 1 := ⟨15 - k, by omega⟩
                rw [hdk, ffp_s, if_neg (nl h77)] at hv
                rw [show d = 16 - (k + 1) by omega] at hv
                refine aw_iinc2 110 (nI (k + 1)) dX12_played_110 (nI_1 _) rfl ?_
                refine aw_goto 113 65 dX12_played_113 (by decide) ?_
                exact ih65 _ (by omega) (k + 1) M rfl (by omega) hv hW
              · obtain ⟨d, hdk⟩ : ∃ d, 16 - k = d + 1 := ⟨15 - k, by omega⟩
                rw [hdk, ffp_s] at hv
                refine aw_aload0 80 dX12_played_80 ?_
                refine rw_ga 81 11 dX12_played_81 ckF_RX12_25_12 (by decide) (by decide) hW ?_
                refine aw_iload2 84 dX12_played_84 ?_
                refine rw_ld 85 11 (k) dX12_played_85 hW rfl (show k < 16 by omega) ?_
                refine aw_topi (hHu.1 k (by omega)) ?_
                refine aw_aload0 86 dX12_played_86 ?_
                refine rw_ga 87 4 dX12_played_87 ckF_RX12_16_12 (by decide) (by decide) hW ?_
                refine aw_bipush 90 16 dX12_played_90 (by decide) ?_
                refine aw_iload1 92 dX12_played_92 ?_
                refine aw_imulN 93 (16) (p) dX12_played_93 rfl rfl ?_
                refine aw_iload2 94 dX12_played_94 ?_
                refine aw_iaddN 95 (16 * p) (k) dX12_played_95 rfl rfl ?_
                refine rw_ld 96 4 ((16 * p) + k) dX12_played_96 hW rfl (show (16 * p) + k < 192 by omega) ?_
                refine aw_topi (show _ = τ 4 (16 * p + k) by rw [hobs 4 (by decide)]) ?_
                refine aw_isub 97 dX12_played_97 ?_
                refine sd_call1 98 dX12_played_98 c_X12_sizeOf ckS_RX12_241 cd_X12_sizeOf rfl (Nat.le_of_ble_eq_true rfl) ⟨⟨by decide, by decide⟩, by decide, by decide⟩ rfl ?_
                refine aw_aload0 101 dX12_played_101 ?_
                refine rw_gi 102 23 dX12_played_102 ckF_RX12_238_12 (by decide) rfl hW ?_
                refine aw_topi (show _ = τ 23 0 by rw [hobs 23 (by decide)]) ?_
                refine aw_icmp_le 105 110 dX12_played_105 (by decide) (fun h105 => ?_) (fun h105 => ?_)
                · rw [if_neg (nr (Int32.not_lt.mpr h105)), show d = 16 - (k + 1) by omega] at hv
                  refine aw_iinc2 110 (nI (k + 1)) dX12_played_110 (nI_1 _) rfl ?_
                  refine aw_goto 113 65 dX12_played_113 (by decide) ?_
                  exact ih65 _ (by omega) (k + 1) M rfl (by omega) hv hW
                · refine aw_iload2 108 dX12_played_108 ?_
                  refine aw_iret 109 dX12_played_109 rfl (Nat.zero_le _) (Nat.zero_le _) ?_
                  exact ⟨by rw [hv, if_pos (And.intro h77 (Int32.not_le.mp h105))], _, hW, hobs⟩
        exact LP65 _ 0 M rfl (by omega) hv hW
      · refine aw_bipush 60 (-21) dX12_played_60 (by decide) ?_
        refine aw_iret 62 dX12_played_62 rfl (Nat.zero_le _) (Nat.zero_le _) ?_
        refine ⟨?_, _, hW, hobs⟩
        first
          | (rw [if_pos (nl h44)]; done)
          | (rw [if_pos (nr h57)]; done)

def spk (τ : TT) (p : Nat) : Int32 := if τ 15 (dgt (τ 17) p) ≤ τ 18 p then 3 else if ¬ slv τ p (dgt (τ 17) p) (τ 18 p) = τ 19 p then 2 else if τ 16 p = 1 ∧ ¬ plR τ p = -9 then 4 else if τ 16 p = 2 then 1 else 0
theorem Obs.spke {σ τ : TT} (h : Obs σ τ) (p : Nat) : spk σ p = spk τ p := by
  unfold spk
  rw [h 15 (by decide), h 17 (by decide), h 18 (by decide), h 19 (by decide), h 16 (by decide), h.slve, h.plRe]
theorem lnOK.obs {σ τ : TT} {p : Nat} (h : Obs σ τ) (w : lnOK τ p) : lnOK σ p := by
  unfold lnOK at *
  rw [h.nLe, h 16 (by decide), h 17 (by decide), h 18 (by decide), h 20 (by decide), h 21 (by decide), h 22 (by decide)]
  exact w

def rmX12_speaking : Room := { frames := 5, cells := 0, slots := 0, locals := 113 }
set_option maxHeartbeats 4000000 in
set_option maxRecDepth 100000 in
theorem c_X12_speaking {τ : TT} {p : Nat} (hw : WP τ) (hp : p < nP τ) (hl : WL τ) (hln : lnOK τ p) : RE mX12_speaking rmX12_speaking [.int (nI p)] τ (some (.int (spk τ p))) (τ) := by
  intro M0 hW0
  refine am_of rfl rfl (ls := [some (.ref 25), some (.int (nI p))]) rfl ?_
  suffices HH : ∀ M, RO τ M0 M → AW mX12_speaking rmX12_speaking (fun r' M' => r' = (some (.int (spk τ p))) ∧ ∃ σ, RO σ M0 M' ∧ Obs σ (τ)) 0 [some (.ref 25), some (.int (nI p))] [] M 0 0 from HH M0 ⟨hW0, Off.rf M0⟩
  intro M hW
  have hn12 := hw.1.1
  have hwd := (hw.2 p hp).1
  have hhg := (hw.2 p hp).2
  have hn6 := hl.1
  obtain ⟨l, hll, hl2⟩ := hln.2.1
  have e17 : dgt (τ 17) p = l := by unfold dgt; rw [hl2, nI_clamp (by omega)]
  have hlo := lay_obs (τ := τ) (p := p)
  unfold spk
  rw [e17]
  refine aw_aload0 0 dX12_speaking_0 ?_
  refine rw_ga 1 18 dX12_speaking_1 ckF_RX12_43_12 (by decide) (by decide) hW ?_
  refine aw_iload1 4 dX12_speaking_4 ?_
  refine rw_ld 5 18 (p) dX12_speaking_5 hW rfl (show p < 12 by omega) ?_
  refine aw_aload0 6 dX12_speaking_6 ?_
  refine rw_ga 7 15 dX12_speaking_7 ckF_RX12_34_12 (by decide) (by decide) hW ?_
  refine aw_aload0 10 dX12_speaking_10 ?_
  refine rw_ga 11 17 dX12_speaking_11 ckF_RX12_40_12 (by decide) (by decide) hW ?_
  refine aw_iload1 14 dX12_speaking_14 ?_
  refine rw_ld 15 17 (p) dX12_speaking_15 hW rfl (show p < 12 by omega) ?_
  refine aw_topi (w := nI l) (hl2) ?_
  refine rw_ld 16 15 (l) dX12_speaking_16 hW rfl (show l < 6 by omega) ?_
  refine aw_icmp_lt 17 22 dX12_speaking_17 (by decide) (fun h17 => ?_) (fun h17 => ?_)
  · rw [if_neg (Int32.not_le.mpr h17)]
    refine aw_aload0 22 dX12_speaking_22 ?_
    refine aw_iload1 23 dX12_speaking_23 ?_
    refine aw_aload0 24 dX12_speaking_24 ?_
    refine rw_ga 25 17 dX12_speaking_25 ckF_RX12_40_12 (by decide) (by decide) hW ?_
    refine aw_iload1 28 dX12_speaking_28 ?_
    refine rw_ld 29 17 (p) dX12_speaking_29 hW rfl (show p < 12 by omega) ?_
    refine aw_topi (w := nI l) (hl2) ?_
    refine aw_aload0 30 dX12_speaking_30 ?_
    refine rw_ga 31 18 dX12_speaking_31 ckF_RX12_43_12 (by decide) (by decide) hW ?_
    refine aw_iload1 34 dX12_speaking_34 ?_
    refine rw_ld 35 18 (p) dX12_speaking_35 hW rfl (show p < 12 by omega) ?_
    refine rw_call1 36 dX12_speaking_36 (c_X12_sealOf hw hp (by omega)) ckV_RX12_221 cd_X12_sealOf rfl hW rfl (Nat.le_of_ble_eq_true rfl) ⟨⟨by decide, by decide⟩, by decide, by decide⟩ rfl (fun M hW => ?_)
    refine aw_aload0 39 dX12_speaking_39 ?_
    refine rw_ga 40 19 dX12_speaking_40 ckF_RX12_46_12 (by decide) (by decide) hW ?_
    refine aw_iload1 43 dX12_speaking_43 ?_
    refine rw_ld 44 19 (p) dX12_speaking_44 hW rfl (show p < 12 by omega) ?_
    refine aw_topi (show lay τ p 19 p = τ 19 p by rw [hlo 19 (by decide)]) ?_
    refine aw_icmp_eq 45 50 dX12_speaking_45 (by decide) (fun h45 => ?_) (fun h45 => ?_)
    · rw [if_neg (nn h45)]
      refine aw_aload0 50 dX12_speaking_50 ?_
      refine rw_ga 51 16 dX12_speaking_51 ckF_RX12_37_12 (by decide) (by decide) hW ?_
      refine aw_iload1 54 dX12_speaking_54 ?_
      refine rw_ld 55 16 (p) dX12_speaking_55 hW rfl (show p < 12 by omega) ?_
      refine aw_topi (show lay τ p 16 p = τ 16 p by rw [hlo 16 (by decide)]) ?_
      refine aw_ic1 56 dX12_speaking_56 ?_
      refine aw_icmp_ne 57 72 dX12_speaking_57 (by decide) (fun h57 => ?_) (fun h57 => ?_)
      · rw [if_neg (nl h57)]
        refine aw_aload0 72 dX12_speaking_72 ?_
        refine rw_ga 73 16 dX12_speaking_73 ckF_RX12_37_12 (by decide) (by decide) hW ?_
        refine aw_iload1 76 dX12_speaking_76 ?_
        refine rw_ld 77 16 (p) dX12_speaking_77 hW rfl (show p < 12 by omega) ?_
        refine aw_topi (show _ = τ 16 p by rw [hlo 16 (by decide)]) ?_
        refine aw_ic2 78 dX12_speaking_78 ?_
        refine aw_icmp_ne 79 86 dX12_speaking_79 (by decide) (fun h79 => ?_) (fun h79 => ?_)
        · refine aw_ic0 86 dX12_speaking_86 ?_
          refine aw_iret 87 dX12_speaking_87 rfl (Nat.zero_le _) (Nat.zero_le _) ?_
          refine ⟨?_, _, hW, hlo⟩
          first
            | (rw [if_pos h79]; done)
            | (rw [if_neg h79]; done)
        · refine aw_ic1 82 dX12_speaking_82 ?_
          refine aw_goto 83 87 dX12_speaking_83 (by decide) ?_
          refine aw_iret 87 dX12_speaking_87 rfl (Nat.zero_le _) (Nat.zero_le _) ?_
          refine ⟨?_, _, hW, hlo⟩
          first
            | (rw [if_pos h79]; done)
            | (rw [if_neg h79]; done)
      · refine aw_aload0 60 dX12_speaking_60 ?_
        refine aw_iload1 61 dX12_speaking_61 ?_
        refine re_call1 62 dX12_speaking_62 (show RE mX12_played rmX12_played [.int (nI p)] (lay τ p) (some (.int (plR τ p))) (lay τ p) from by have := c_X12_played (τ := lay τ p) (hlo.WPe hw) (by rw [hlo.nPe]; exact hp) (lnOK.obs hlo hln) (by rw [hlo 16 (by decide)]; exact h57); rwa [hlo.plRe] at this) ckV_RX12_244 cd_X12_played rfl hW rfl (Nat.le_of_ble_eq_true rfl) ⟨⟨by decide, by decide⟩, by decide, by decide⟩ rfl (fun ρ M hoρ hW => ?_)
        refine aw_bipush 65 (-9) dX12_speaking_65 (by decide) ?_
        refine aw_icmp_eq 67 72 dX12_speaking_67 (by decide) (fun h67 => ?_) (fun h67 => ?_)
        · rw [if_neg (nr (nn h67))]
          replace hlo := hoρ.trans hlo
          refine aw_aload0 72 dX12_speaking_72 ?_
          refine rw_ga 73 16 dX12_speaking_73 ckF_RX12_37_12 (by decide) (by decide) hW ?_
          refine aw_iload1 76 dX12_speaking_76 ?_
          refine rw_ld 77 16 (p) dX12_speaking_77 hW rfl (show p < 12 by omega) ?_
          refine aw_topi (show _ = τ 16 p by rw [hlo 16 (by decide)]) ?_
          refine aw_ic2 78 dX12_speaking_78 ?_
          refine aw_icmp_ne 79 86 dX12_speaking_79 (by decide) (fun h79 => ?_) (fun h79 => ?_)
          · refine aw_ic0 86 dX12_speaking_86 ?_
            refine aw_iret 87 dX12_speaking_87 rfl (Nat.zero_le _) (Nat.zero_le _) ?_
            refine ⟨?_, _, hW, hlo⟩
            first
              | (rw [if_pos h79]; done)
              | (rw [if_neg h79]; done)
          · refine aw_ic1 82 dX12_speaking_82 ?_
            refine aw_goto 83 87 dX12_speaking_83 (by decide) ?_
            refine aw_iret 87 dX12_speaking_87 rfl (Nat.zero_le _) (Nat.zero_le _) ?_
            refine ⟨?_, _, hW, hlo⟩
            first
              | (rw [if_pos h79]; done)
              | (rw [if_neg h79]; done)
        · rw [if_pos (And.intro h57 h67)]
          refine aw_ic4 70 dX12_speaking_70 ?_
          refine aw_iret 71 dX12_speaking_71 rfl (Nat.zero_le _) (Nat.zero_le _) ?_
          exact ⟨rfl, _, hW, hoρ.trans hlo⟩
    · rw [if_pos h45]
      refine aw_ic2 48 dX12_speaking_48 ?_
      refine aw_iret 49 dX12_speaking_49 rfl (Nat.zero_le _) (Nat.zero_le _) ?_
      exact ⟨rfl, _, hW, hlo⟩
  · refine aw_ic3 20 dX12_speaking_20 ?_
    refine aw_iret 21 dX12_speaking_21 rfl (Nat.zero_le _) (Nat.zero_le _) ?_
    exact ⟨by rw [if_pos (Int32.not_lt.mp h17)], _, hW, Obs.rf _⟩

def rmX12_play : Room := { frames := 4, cells := 0, slots := 0, locals := 92 }
set_option maxHeartbeats 4000000 in
set_option maxRecDepth 100000 in
theorem n_X12_play {τ : TT} {v : Int32} (hw : WP τ) (hno : ¬ ir v (nP τ)) : RD mX12_play rmX12_play [.int v] τ (some (.int (-1))) (τ) := by
  intro M0 hW0
  refine am_of rfl rfl (ls := [some (.ref 25), some (.int v)]) rfl ?_
  suffices HH : ∀ M, RO τ M0 M → AW mX12_play rmX12_play (fun r' M' => r' = (some (.int (-1))) ∧ RO (τ) M0 M') 0 [some (.ref 25), some (.int v)] [] M 0 0 from HH M0 ⟨hW0, Off.rf M0⟩
  intro M hW
  refine aw_aload0 0 dX12_play_0 ?_
  refine aw_iload1 1 dX12_play_1 ?_
  refine rw_call1 2 dX12_play_2 (c_X12_noPicture hw) ckV_RX12_146 cd_X12_noPicture rfl hW rfl (Nat.le_of_ble_eq_true rfl) ⟨⟨by decide, by decide⟩, by decide, by decide⟩ rfl (fun M hW => ?_)
  refine aw_ifeq_b 5 10 dX12_play_5 (by decide) (fun h5 => ?_) (fun h5 => ?_)
  · exact absurd hno h5
  · refine aw_icm1 8 dX12_play_8 ?_
    refine aw_iret 9 dX12_play_9 rfl (Nat.zero_le _) (Nat.zero_le _) ?_
    exact ⟨rfl, hW⟩

set_option maxHeartbeats 4000000 in
set_option maxRecDepth 100000 in
theorem c_X12_play {τ : TT} {p : Nat} (hw : WP τ) (hp : p < nP τ) (hl : WL τ) (hn : WN τ) : RE mX12_play rmX12_play [.int (nI p)] τ (some (.int (if τ 16 p = 1 then plR τ p else -3))) (τ) := by
  intro M0 hW0
  refine am_of rfl rfl (ls := [some (.ref 25), some (.int (nI p))]) rfl ?_
  suffices HH : ∀ M, RO τ M0 M → AW mX12_play rmX12_play (fun r' M' => r' = (some (.int (if τ 16 p = 1 then plR τ p else -3))) ∧ ∃ σ, RO σ M0 M' ∧ Obs σ (τ)) 0 [some (.ref 25), some (.int (nI p))] [] M 0 0 from HH M0 ⟨hW0, Off.rf M0⟩
  intro M hW
  have hn12 := hw.1.1
  have hip := ir_nI (n := nP τ) (by omega) hp
  refine aw_aload0 0 dX12_play_0 ?_
  refine aw_iload1 1 dX12_play_1 ?_
  refine rw_call1 2 dX12_play_2 (c_X12_noPicture hw) ckV_RX12_146 cd_X12_noPicture rfl hW rfl (Nat.le_of_ble_eq_true rfl) ⟨⟨by decide, by decide⟩, by decide, by decide⟩ rfl (fun M hW => ?_)
  refine aw_ifeq_b 5 10 dX12_play_5 (by decide) (fun h5 => ?_) (fun h5 => ?_)
  · refine aw_aload0 10 dX12_play_10 ?_
    refine rw_ga 11 16 dX12_play_11 ckF_RX12_37_12 (by decide) (by decide) hW ?_
    refine aw_iload1 14 dX12_play_14 ?_
    refine rw_ld 15 16 (p) dX12_play_15 hW rfl (show p < 12 by omega) ?_
    refine aw_ic1 16 dX12_play_16 ?_
    refine aw_icmp_ne 17 28 dX12_play_17 (by decide) (fun h17 => ?_) (fun h17 => ?_)
    · rw [if_neg h17]
      refine aw_bipush 28 (-3) dX12_play_28 (by decide) ?_
      refine aw_iret 30 dX12_play_30 rfl (Nat.zero_le _) (Nat.zero_le _) ?_
      first
        | exact ⟨rfl, _, hW, hoρ⟩
        | exact ⟨rfl, _, hW, Obs.rf _⟩
    · have hln : lnOK τ p := (hn p hp).resolve_left (fun q => by rw [q] at h17; exact absurd h17 (by decide))
      rw [if_pos h17]
      refine aw_aload0 20 dX12_play_20 ?_
      refine aw_iload1 21 dX12_play_21 ?_
      refine re_call1 22 dX12_play_22 (c_X12_played hw hp hln h17) ckV_RX12_244 cd_X12_played rfl hW rfl (Nat.le_of_ble_eq_true rfl) ⟨⟨by decide, by decide⟩, by decide, by decide⟩ rfl (fun ρ M hoρ hW => ?_)
      refine aw_goto 25 30 dX12_play_25 (by decide) ?_
      refine aw_iret 30 dX12_play_30 rfl (Nat.zero_le _) (Nat.zero_le _) ?_
      first
        | exact ⟨rfl, _, hW, hoρ⟩
        | exact ⟨rfl, _, hW, Obs.rf _⟩
  · exact absurd hip h5

def rmX12_speaks : Room := { frames := 6, cells := 0, slots := 0, locals := 134 }
set_option maxHeartbeats 4000000 in
set_option maxRecDepth 100000 in
theorem n_X12_speaks {τ : TT} {v : Int32} (hw : WP τ) (hno : ¬ ir v (nP τ)) : RD mX12_speaks rmX12_speaks [.int v] τ (some (.int (-1))) (τ) := by
  intro M0 hW0
  refine am_of rfl rfl (ls := [some (.ref 25), some (.int v)]) rfl ?_
  suffices HH : ∀ M, RO τ M0 M → AW mX12_speaks rmX12_speaks (fun r' M' => r' = (some (.int (-1))) ∧ RO (τ) M0 M') 0 [some (.ref 25), some (.int v)] [] M 0 0 from HH M0 ⟨hW0, Off.rf M0⟩
  intro M hW
  refine aw_aload0 0 dX12_speaks_0 ?_
  refine aw_iload1 1 dX12_speaks_1 ?_
  refine rw_call1 2 dX12_speaks_2 (c_X12_noPicture hw) ckV_RX12_146 cd_X12_noPicture rfl hW rfl (Nat.le_of_ble_eq_true rfl) ⟨⟨by decide, by decide⟩, by decide, by decide⟩ rfl (fun M hW => ?_)
  refine aw_ifeq_b 5 10 dX12_speaks_5 (by decide) (fun h5 => ?_) (fun h5 => ?_)
  · exact absurd hno h5
  · refine aw_icm1 8 dX12_speaks_8 ?_
    refine aw_iret 9 dX12_speaks_9 rfl (Nat.zero_le _) (Nat.zero_le _) ?_
    exact ⟨rfl, hW⟩

set_option maxHeartbeats 4000000 in
set_option maxRecDepth 100000 in
theorem c_X12_speaks {τ : TT} {p : Nat} (hw : WP τ) (hp : p < nP τ) (hl : WL τ) (hn : WN τ) : RE mX12_speaks rmX12_speaks [.int (nI p)] τ (some (.int (if τ 16 p < 0 then -3 else spk τ p))) (τ) := by
  intro M0 hW0
  refine am_of rfl rfl (ls := [some (.ref 25), some (.int (nI p))]) rfl ?_
  suffices HH : ∀ M, RO τ M0 M → AW mX12_speaks rmX12_speaks (fun r' M' => r' = (some (.int (if τ 16 p < 0 then -3 else spk τ p))) ∧ ∃ σ, RO σ M0 M' ∧ Obs σ (τ)) 0 [some (.ref 25), some (.int (nI p))] [] M 0 0 from HH M0 ⟨hW0, Off.rf M0⟩
  intro M hW
  have hn12 := hw.1.1
  have hip := ir_nI (n := nP τ) (by omega) hp
  refine aw_aload0 0 dX12_speaks_0 ?_
  refine aw_iload1 1 dX12_speaks_1 ?_
  refine rw_call1 2 dX12_speaks_2 (c_X12_noPicture hw) ckV_RX12_146 cd_X12_noPicture rfl hW rfl (Nat.le_of_ble_eq_true rfl) ⟨⟨by decide, by decide⟩, by decide, by decide⟩ rfl (fun M hW => ?_)
  refine aw_ifeq_b 5 10 dX12_speaks_5 (by decide) (fun h5 => ?_) (fun h5 => ?_)
  · refine aw_aload0 10 dX12_speaks_10 ?_
    refine aw_iload1 11 dX12_speaks_11 ?_
    refine rw_call1 12 dX12_speaks_12 (c_X12_noLine (by omega)) ckV_RX12_227 cd_X12_noLine rfl hW rfl (Nat.le_of_ble_eq_true rfl) ⟨⟨by decide, by decide⟩, by decide, by decide⟩ rfl (fun M hW => ?_)
    refine aw_ifeq_b 15 23 dX12_speaks_15 (by decide) (fun h15 => ?_) (fun h15 => ?_)
    · have hln : lnOK τ p := (hn p hp).resolve_left (fun q => h15 (by rw [q]; decide))
      rw [if_neg h15]
      refine aw_aload0 23 dX12_speaks_23 ?_
      refine aw_iload1 24 dX12_speaks_24 ?_
      refine re_call1 25 dX12_speaks_25 (c_X12_speaking hw hp hl hln) ckV_RX12_247 cd_X12_speaking rfl hW rfl (Nat.le_of_ble_eq_true rfl) ⟨⟨by decide, by decide⟩, by decide, by decide⟩ rfl (fun ρ M hoρ hW => ?_)
      refine aw_iret 28 dX12_speaks_28 rfl (Nat.zero_le _) (Nat.zero_le _) ?_
      first
        | exact ⟨rfl, _, hW, hoρ⟩
        | exact ⟨rfl, _, hW, Obs.rf _⟩
    · rw [if_pos h15]
      refine aw_bipush 18 (-3) dX12_speaks_18 (by decide) ?_
      refine aw_goto 20 28 dX12_speaks_20 (by decide) ?_
      refine aw_iret 28 dX12_speaks_28 rfl (Nat.zero_le _) (Nat.zero_le _) ?_
      first
        | exact ⟨rfl, _, hW, hoρ⟩
        | exact ⟨rfl, _, hW, Obs.rf _⟩
  · exact absurd hip h5

/-- where the way goes on -/
theorem nxt_ok {τ : TT} {x : Nat} (hn : WN τ) (hx : x < nP τ) : nxt τ x = -9 ∨ ∃ f, f < x ∧ nxt τ x = nI f := by
  unfold nxt
  rcases hn x hx with h | h
  · rw [if_pos (Or.inl (by rw [h]; decide))]; exact Or.inl rfl
  · by_cases h0 : τ 16 x = 0
    · rw [if_pos (Or.inr h0)]; exact Or.inl rfl
    · obtain ⟨f, h1, h2⟩ := h.2.2.2.1 h0
      have hge : ¬ τ 16 x < 0 := by rcases h.1 with e | e | e <;> rw [e] <;> decide
      rw [if_neg (fun q => q.elim hge h0)]
      exact Or.inr ⟨f, h1, h2⟩
theorem Obs.nxte {σ τ : TT} (h : Obs σ τ) (p : Nat) : nxt σ p = nxt τ p := by
  unfold nxt
  rw [h 16 (by decide), h 20 (by decide)]
/-- what is next, if anything is -/
def nx (τ : TT) (x : Nat) : Option Nat := if nxt τ x < 0 then none else some (dgt (nxt τ) x)
theorem nx_ok {τ : TT} {x : Nat} (hn : WN τ) (hx : x < nP τ) (h12 : nP τ ≤ 12) : nxt τ x = ob (nx τ x) ∧ (nx τ x).elim 0 (· + 1) < x + 1 ∧ ∀ y, nx τ x = some y → y < x := by
  unfold nx
  rcases nxt_ok hn hx with h | ⟨f, hf, h⟩
  · rw [if_pos (by rw [h]; decide)]
    exact ⟨h, by simp, fun y q => by cases q⟩
  · have hd : dgt (nxt τ) x = f := by unfold dgt; rw [h, nI_clamp (by omega)]
    rw [if_neg (by rw [h]; exact nI_pos (by omega)), hd]
    exact ⟨h, by show f + 1 < x + 1; omega, fun y q => by cases q; exact hf⟩
theorem Obs.nxe {σ τ : TT} (h : Obs σ τ) (p : Nat) : nx σ p = nx τ p := by
  unfold nx dgt
  rw [h.nxte]
def wyO (τ : TT) (k : Int32) : Nat → Option Nat → Int32 → Int32 → Int32 × Int32
  | 0, _, m, fd => (m, fd)
  | _ + 1, none, m, fd => (m, fd)
  | d + 1, some x, m, fd => wyO τ k d (nx τ x) (m + 1) (if m = k then nI x else fd)
def sWy (τ : TT) (p : Nat) (k : Int32) : Int32 := if k < 0 then (wyO τ k 13 (some p) 0 (-9)).1 else (wyO τ k 13 (some p) 0 (-9)).2
def dbO (τ : TT) : Nat → Option Nat → Int32
  | 0, _ => -9
  | _ + 1, none => -9
  | d + 1, some x => if τ 16 x < 0 ∨ 1 < spk τ x then nI x else dbO τ d (nx τ x)
def dbt (τ : TT) (p : Nat) : Int32 := dbO τ 13 (some p)
theorem Obs.dbOe {σ τ : TT} (h : Obs σ τ) : ∀ d xo, dbO σ d xo = dbO τ d xo
  | 0, _ => rfl
  | _ + 1, none => rfl
  | d + 1, some x => by
    show ite _ _ _ = ite _ _ _
    rw [h 16 (by decide), h.spke, h.nxe, h.dbOe d]
def whO (τ : TT) : Nat → Option Nat → Int32 → Int32
  | 0, _, b => b
  | _ + 1, none, b => b
  | d + 1, some x, b => whO τ d (nx τ x) (if ¬ b = 0 ∧ ¬ τ 16 x = 2 then 1 else 0)
def sWh (τ : TT) (p : Nat) : Int32 := if ¬ whO τ 13 (some p) (if dbt τ p < 0 then 1 else 0) = 0 then 1 else 0
def WK (τ : TT) : Prop := (nK τ ≤ 9 ∧ τ 24 0 = nI (nK τ)) ∧ ∀ k, k < nK τ → ∃ q, q < nP τ ∧ τ 25 k = nI q
def dfl (τ : TT) : Nat → Int32
  | 0 => 0
  | k + 1 => dfl τ k ||| (if dbt τ (dgt (τ 25) k) < 0 then (0 : Int32) else (1 : Int32) <<< (nI k &&& 31))
theorem dfl_s {τ : TT} {k : Nat} : dfl τ (k + 1) = dfl τ k ||| (if dbt τ (dgt (τ 25) k) < 0 then (0 : Int32) else (1 : Int32) <<< (nI k &&& 31)) := rfl

def rmX12_way : Room := { frames := 2, cells := 0, slots := 0, locals := 46 }
set_option maxHeartbeats 4000000 in
set_option maxRecDepth 100000 in
theorem n_X12_way {τ : TT} {v w : Int32} (hw : WP τ) (hno : ¬ ir v (nP τ) ∨ ¬ irg w (-1) 11) : RD mX12_way rmX12_way [.int v, .int w] τ (some (.int (-1))) (τ) := by
  intro M0 hW0
  refine am_of rfl rfl (ls := [some (.ref 25), some (.int v), some (.int w), none, none, none]) rfl ?_
  suffices HH : ∀ M, RO τ M0 M → AW mX12_way rmX12_way (fun r' M' => r' = (some (.int (-1))) ∧ RO (τ) M0 M') 0 [some (.ref 25), some (.int v), some (.int w), none, none, none] [] M 0 0 from HH M0 ⟨hW0, Off.rf M0⟩
  intro M hW
  refine aw_aload0 0 dX12_way_0 ?_
  refine aw_iload1 1 dX12_way_1 ?_
  refine rw_call1 2 dX12_way_2 (c_X12_noPicture hw) ckV_RX12_146 cd_X12_noPicture rfl hW rfl (Nat.le_of_ble_eq_true rfl) ⟨⟨by decide, by decide⟩, by decide, by decide⟩ rfl (fun M hW => ?_)
  refine aw_ifne_b 5 22 dX12_way_5 (by decide) (fun h5 => ?_) (fun h5 => ?_)
  · refine aw_icm1 22 dX12_way_22 ?_
    refine aw_iret 23 dX12_way_23 rfl (Nat.zero_le _) (Nat.zero_le _) ?_
    exact ⟨rfl, hW⟩
  · refine aw_iload2 8 dX12_way_8 ?_
    refine aw_i2l 9 dX12_way_9 ?_
    refine aw_ldc2 10 (-1) dX12_way_10 ckL_RX12_250 ?_
    refine aw_ldc2 13 (11) dX12_way_13 ckL_RX12_252 ?_
    refine sd_call1 16 dX12_way_16 (c_in2 (-1) (11) (by decide) (by decide)) ckS_RX12_99 cd_X12_in rfl (Nat.le_of_ble_eq_true rfl) ⟨⟨by decide, by decide⟩, by decide, by decide⟩ rfl ?_
    refine aw_ifne_b 19 24 dX12_way_19 (by decide) (fun h19 => ?_) (fun h19 => ?_)
    · exact absurd hno (fun q => q.elim h5 (fun z => z h19))
    · refine aw_icm1 22 dX12_way_22 ?_
      refine aw_iret 23 dX12_way_23 rfl (Nat.zero_le _) (Nat.zero_le _) ?_
      exact ⟨rfl, hW⟩

set_option maxHeartbeats 4000000 in
set_option maxRecDepth 100000 in
theorem c_X12_way {τ : TT} {p : Nat} {k : Int32} (hw : WP τ) (hp : p < nP τ) (hn : WN τ) (hk : irg k (-1) 11) : RD mX12_way rmX12_way [.int (nI p), .int k] τ (some (.int (sWy τ p k))) (τ) := by
  intro M0 hW0
  refine am_of rfl rfl (ls := [some (.ref 25), some (.int (nI p)), some (.int k), none, none, none]) rfl ?_
  suffices HH : ∀ M, RO τ M0 M → AW mX12_way rmX12_way (fun r' M' => r' = (some (.int (sWy τ p k))) ∧ RO (τ) M0 M') 0 [some (.ref 25), some (.int (nI p)), some (.int k), none, none, none] [] M 0 0 from HH M0 ⟨hW0, Off.rf M0⟩
  intro M hW
  have hn12 := hw.1.1
  have hip := ir_nI (n := nP τ) (by omega) hp
  unfold sWy
  suffices HS : ∀ v, v = wyO τ k 13 (some p) 0 (-9) → AW mX12_way rmX12_way (fun r' M' => r' = some (.int (if k < 0 then v.1 else v.2)) ∧ RO τ M0 M') 0 [some (.ref 25), some (.int (nI p)), some (.int k), none, none, none] [] M 0 0 from HS _ rfl
  intro v hv
  refine aw_aload0 0 dX12_way_0 ?_
  refine aw_iload1 1 dX12_way_1 ?_
  refine rw_call1 2 dX12_way_2 (c_X12_noPicture hw) ckV_RX12_146 cd_X12_noPicture rfl hW rfl (Nat.le_of_ble_eq_true rfl) ⟨⟨by decide, by decide⟩, by decide, by decide⟩ rfl (fun M hW => ?_)
  refine aw_ifne_b 5 22 dX12_way_5 (by decide) (fun h5 => ?_) (fun h5 => ?_)
  · first | exact absurd hip h5 | exact absurd hk h19
  · refine aw_iload2 8 dX12_way_8 ?_
    refine aw_i2l 9 dX12_way_9 ?_
    refine aw_ldc2 10 (-1) dX12_way_10 ckL_RX12_250 ?_
    refine aw_ldc2 13 (11) dX12_way_13 ckL_RX12_252 ?_
    refine sd_call1 16 dX12_way_16 (c_in2 (-1) (11) (by decide) (by decide)) ckS_RX12_99 cd_X12_in rfl (Nat.le_of_ble_eq_true rfl) ⟨⟨by decide, by decide⟩, by decide, by decide⟩ rfl ?_
    refine aw_ifne_b 19 24 dX12_way_19 (by decide) (fun h19 => ?_) (fun h19 => ?_)
    · refine aw_ic0 24 dX12_way_24 ?_
      refine aw_istore3 25 dX12_way_25 rfl ?_
      refine aw_bipush 26 (-9) dX12_way_26 (by decide) ?_
      refine aw_istore4 28 dX12_way_28 rfl ?_
      refine aw_iload1 30 dX12_way_30 ?_
      refine aw_istore5 31 dX12_way_31 rfl ?_
      have LP33 : ∀ (dd : Nat) (xo : Option Nat) (d : Nat) (m fd : Int32) (M : Mem), xo.elim 0 (· + 1) = dd → (∀ x, xo = some x → x < nP τ) → (∀ x, xo = some x → x < d) → (v = wyO τ k d xo m fd) → (RO τ M0 M) → AW mX12_way rmX12_way (fun r' M' => r' = some (.int (if k < 0 then v.1 else v.2)) ∧ RO τ M0 M') 33 [some (.ref 25), some (.int (nI p)), some (.int k), some (.int m), some (.int fd), some (.int (ob xo))] [] M 0 0 := by
        intro dd
        induction dd using Nat.strongRecOn with
        | _ dd ih33 =>
          intro xo d m fd M hdd hxo hd hv hW
          cases xo with
          | none =>
            refine aw_iload5 33 dX12_way_33 ?_
            refine aw_if_lt 35 66 dX12_way_35 (by decide) (fun _ => ?_) (fun h => absurd (show ob none < 0 by decide) h)
            have hv2 : v = (m, fd) := by rw [hv]; cases d <;> rfl
            subst hv2
            refine aw_iload2 66 dX12_way_66 ?_
            refine aw_if_ge 67 74 dX12_way_67 (by decide) (fun h67 => ?_) (fun h67 => ?_)
            · refine aw_iload4 74 dX12_way_74 ?_
              refine aw_iret 76 dX12_way_76 rfl (Nat.zero_le _) (Nat.zero_le _) ?_
              refine ⟨?_, hW⟩
              first
                | (rw [if_neg (Int32.not_lt.mpr h67)]; done)
                | (rw [if_pos (Int32.not_le.mp h67)]; done)
            · refine aw_iload3 70 dX12_way_70 ?_
              refine aw_goto 71 76 dX12_way_71 (by decide) ?_
              refine aw_iret 76 dX12_way_76 rfl (Nat.zero_le _) (Nat.zero_le _) ?_
              refine ⟨?_, hW⟩
              first
                | (rw [if_neg (Int32.not_lt.mpr h67)]; done)
                | (rw [if_pos (Int32.not_le.mp h67)]; done)
          | some x =>
            have hx := hxo x rfl
            refine aw_iload5 33 dX12_way_33 ?_
            refine aw_if_ltN 35 66 x dX12_way_35 (by decide) rfl (by omega) ?_
            have hd1 := hd x rfl
            obtain ⟨d, rfl⟩ : ∃ q, d = q + 1 := ⟨d - 1, by omega⟩
            replace hv : v = wyO τ k d (nx τ x) (m + 1) (if m = k then nI x else fd) := hv
            have hnx := nx_ok hn hx hn12
            refine aw_iload3 38 dX12_way_38 ?_
            refine aw_iload2 39 dX12_way_39 ?_
            refine aw_icmp_ne 40 48 dX12_way_40 (by decide) (fun h40 => ?_) (fun h40 => ?_)
            · rw [if_neg h40] at hv
              refine aw_iload4 48 dX12_way_48 ?_
              refine aw_istore4 50 dX12_way_50 rfl ?_
              refine aw_iinc3 52 (m + 1) dX12_way_52 rfl rfl ?_
              refine aw_aload0 55 dX12_way_55 ?_
              refine aw_iload5 56 dX12_way_56 ?_
              refine rw_call1 58 dX12_way_58 (c_X12_nextOn (p := x) (by omega)) ckV_RX12_254 cd_X12_nextOn rfl hW rfl (Nat.le_of_ble_eq_true rfl) ⟨⟨by decide, by decide⟩, by decide, by decide⟩ rfl (fun M hW => ?_)
              refine aw_topi hnx.1 ?_
              refine aw_istore5 61 dX12_way_61 rfl ?_
              refine aw_goto 63 33 dX12_way_63 (by decide) ?_
              exact ih33 _ (by rw [← hdd]; exact hnx.2.1) (nx τ x) d (m + 1) _ M rfl (fun y q => by have := hnx.2.2 y q; omega) (fun y q => by have := hnx.2.2 y q; omega) hv hW
            · rw [if_pos h40] at hv
              refine aw_iload5 43 dX12_way_43 ?_
              refine aw_goto 45 50 dX12_way_45 (by decide) ?_
              refine aw_istore4 50 dX12_way_50 rfl ?_
              refine aw_iinc3 52 (m + 1) dX12_way_52 rfl rfl ?_
              refine aw_aload0 55 dX12_way_55 ?_
              refine aw_iload5 56 dX12_way_56 ?_
              refine rw_call1 58 dX12_way_58 (c_X12_nextOn (p := x) (by omega)) ckV_RX12_254 cd_X12_nextOn rfl hW rfl (Nat.le_of_ble_eq_true rfl) ⟨⟨by decide, by decide⟩, by decide, by decide⟩ rfl (fun M hW => ?_)
              refine aw_topi hnx.1 ?_
              refine aw_istore5 61 dX12_way_61 rfl ?_
              refine aw_goto 63 33 dX12_way_63 (by decide) ?_
              exact ih33 _ (by rw [← hdd]; exact hnx.2.1) (nx τ x) d (m + 1) _ M rfl (fun y q => by have := hnx.2.2 y q; omega) (fun y q => by have := hnx.2.2 y q; omega) hv hW
      exact LP33 _ (some p) 13 0 (-9) M rfl (fun x q => by cases q; exact hp) (fun x q => by cases q; omega) hv hW
    · first | exact absurd hip h5 | exact absurd hk h19

def rmX12_doubtOn : Room := { frames := 6, cells := 0, slots := 0, locals := 134 }
set_option maxHeartbeats 4000000 in
set_option maxRecDepth 100000 in
theorem c_X12_doubtOn {τ : TT} {p : Nat} (hw : WP τ) (hp : p < nP τ) (hl : WL τ) (hn : WN τ) : RE mX12_doubtOn rmX12_doubtOn [.int (nI p)] τ (some (.int (dbt τ p))) (τ) := by
  intro M0 hW0
  refine am_of rfl rfl (ls := [some (.ref 25), some (.int (nI p)), none]) rfl ?_
  suffices HH : ∀ M, RO τ M0 M → AW mX12_doubtOn rmX12_doubtOn (fun r' M' => r' = (some (.int (dbt τ p))) ∧ ∃ σ, RO σ M0 M' ∧ Obs σ (τ)) 0 [some (.ref 25), some (.int (nI p)), none] [] M 0 0 from HH M0 ⟨hW0, Off.rf M0⟩
  intro M hW
  have hn12 := hw.1.1
  have hip := ir_nI (n := nP τ) (by omega) hp
  unfold dbt
  suffices HS : ∀ v, v = dbO τ 13 (some p) → AW mX12_doubtOn rmX12_doubtOn (fun r' M' => r' = some (.int v) ∧ ∃ σ, RO σ M0 M' ∧ Obs σ τ) 0 [some (.ref 25), some (.int (nI p)), none] [] M 0 0 from HS _ rfl
  intro v hv
  refine aw_iload1 0 dX12_doubtOn_0 ?_
  refine aw_istore2 1 dX12_doubtOn_1 rfl ?_
  have LP2 : ∀ (dd : Nat) (xo : Option Nat) (d : Nat) (ρ : TT) (M : Mem), xo.elim 0 (· + 1) = dd → (∀ x, xo = some x → x < nP τ) → (∀ x, xo = some x → x < d) → (v = dbO τ d xo) → (Obs ρ τ) → (RO ρ M0 M) → AW mX12_doubtOn rmX12_doubtOn (fun r' M' => r' = some (.int v) ∧ ∃ σ, RO σ M0 M' ∧ Obs σ τ) 2 [some (.ref 25), some (.int (nI p)), some (.int (ob xo))] [] M 0 0 := by
    intro dd
    induction dd using Nat.strongRecOn with
    | _ dd ih2 =>
      intro xo d ρ M hdd hxo hd hv hr hW
      cases xo with
      | none =>
        refine aw_iload2 2 dX12_doubtOn_2 ?_
        refine aw_if_lt 3 34 dX12_doubtOn_3 (by decide) (fun _ => ?_) (fun h => absurd (show ob none < 0 by decide) h)
        refine aw_bipush 34 (-9) dX12_doubtOn_34 (by decide) ?_
        refine aw_iret 36 dX12_doubtOn_36 rfl (Nat.zero_le _) (Nat.zero_le _) ?_
        exact ⟨by rw [hv]; cases d <;> rfl, _, hW, hr⟩
      | some x =>
        have hx := hxo x rfl
        refine aw_iload2 2 dX12_doubtOn_2 ?_
        refine aw_if_ltN 3 34 x dX12_doubtOn_3 (by decide) rfl (by omega) ?_
        have hd1 := hd x rfl
        obtain ⟨d, rfl⟩ : ∃ q, d = q + 1 := ⟨d - 1, by omega⟩
        replace hv : v = if τ 16 x < 0 ∨ 1 < spk τ x then nI x else dbO τ d (nx τ x) := hv
        have hnx := nx_ok hn hx hn12
        refine aw_aload0 6 dX12_doubtOn_6 ?_
        refine aw_iload2 7 dX12_doubtOn_7 ?_
        refine rw_call1 8 dX12_doubtOn_8 (show RD mX12_noLine rmX12_noLine [.int (nI x)] ρ (some (.int (bi (τ 16 x < 0)))) ρ from rd_r (c_X12_noLine (p := x) (by omega)) (bi_congr (by rw [hr 16 (by decide)]))) ckV_RX12_227 cd_X12_noLine rfl hW rfl (Nat.le_of_ble_eq_true rfl) ⟨⟨by decide, by decide⟩, by decide, by decide⟩ rfl (fun M hW => ?_)
        refine aw_ifne_b 11 23 dX12_doubtOn_11 (by decide) (fun h11 => ?_) (fun h11 => ?_)
        · rw [if_pos (Or.inl h11)] at hv
          have hfin : Obs ρ τ := hr
          refine aw_iload2 23 dX12_doubtOn_23 ?_
          refine aw_iret 24 dX12_doubtOn_24 rfl (Nat.zero_le _) (Nat.zero_le _) ?_
          exact ⟨by rw [hv]; rfl, _, hW, hfin⟩
        · have hln : lnOK τ x := (hn x hx).resolve_left (fun q => h11 (by rw [q]; decide))
          refine aw_aload0 14 dX12_doubtOn_14 ?_
          refine aw_iload2 15 dX12_doubtOn_15 ?_
          refine re_call1 16 dX12_doubtOn_16 (show RE mX12_speaking rmX12_speaking [.int (nI x)] ρ (some (.int (spk τ x))) ρ from by have := c_X12_speaking (τ := ρ) (hr.WPe hw) (by rw [hr.nPe]; exact hx) (hr.WLe hl) (lnOK.obs hr hln); rwa [hr.spke] at this) ckV_RX12_247 cd_X12_speaking rfl hW rfl (Nat.le_of_ble_eq_true rfl) ⟨⟨by decide, by decide⟩, by decide, by decide⟩ rfl (fun ξ M hoξ hW => ?_)
          refine aw_ic1 19 dX12_doubtOn_19 ?_
          refine aw_icmp_le 20 25 dX12_doubtOn_20 (by decide) (fun h20 => ?_) (fun h20 => ?_)
          · rw [if_neg (fun q => q.elim h11 (Int32.not_lt.mpr h20))] at hv
            refine aw_aload0 25 dX12_doubtOn_25 ?_
            refine aw_iload2 26 dX12_doubtOn_26 ?_
            refine rw_call1 27 dX12_doubtOn_27 (show RD mX12_nextOn rmX12_nextOn [.int (nI x)] ξ (some (.int (ob (nx τ x)))) ξ from rd_r (c_X12_nextOn (p := x) (by omega)) (by rw [(hoξ.trans hr).nxte]; exact hnx.1)) ckV_RX12_254 cd_X12_nextOn rfl hW rfl (Nat.le_of_ble_eq_true rfl) ⟨⟨by decide, by decide⟩, by decide, by decide⟩ rfl (fun M hW => ?_)
            refine aw_istore2 30 dX12_doubtOn_30 rfl ?_
            refine aw_goto 31 2 dX12_doubtOn_31 (by decide) ?_
            exact ih2 _ (by rw [← hdd]; exact hnx.2.1) (nx τ x) d ξ M rfl (fun y q => by have := hnx.2.2 y q; omega) (fun y q => by have := hnx.2.2 y q; omega) hv (hoξ.trans hr) hW
          · rw [if_pos (Or.inr (Int32.not_le.mp h20))] at hv
            have hfin := hoξ.trans hr
            refine aw_iload2 23 dX12_doubtOn_23 ?_
            refine aw_iret 24 dX12_doubtOn_24 rfl (Nat.zero_le _) (Nat.zero_le _) ?_
            exact ⟨by rw [hv]; rfl, _, hW, hfin⟩
  exact LP2 _ (some p) 13 τ M rfl (fun x q => by cases q; exact hp) (fun x q => by cases q; omega) hv (Obs.rf _) hW

def rmX12_doubt : Room := { frames := 7, cells := 0, slots := 0, locals := 156 }
set_option maxHeartbeats 4000000 in
set_option maxRecDepth 100000 in
theorem n_X12_doubt {τ : TT} {v : Int32} (hw : WP τ) (hno : ¬ ir v (nP τ)) : RD mX12_doubt rmX12_doubt [.int v] τ (some (.int (-1))) (τ) := by
  intro M0 hW0
  refine am_of rfl rfl (ls := [some (.ref 25), some (.int v)]) rfl ?_
  suffices HH : ∀ M, RO τ M0 M → AW mX12_doubt rmX12_doubt (fun r' M' => r' = (some (.int (-1))) ∧ RO (τ) M0 M') 0 [some (.ref 25), some (.int v)] [] M 0 0 from HH M0 ⟨hW0, Off.rf M0⟩
  intro M hW
  refine aw_aload0 0 dX12_doubt_0 ?_
  refine aw_iload1 1 dX12_doubt_1 ?_
  refine rw_call1 2 dX12_doubt_2 (c_X12_noPicture hw) ckV_RX12_146 cd_X12_noPicture rfl hW rfl (Nat.le_of_ble_eq_true rfl) ⟨⟨by decide, by decide⟩, by decide, by decide⟩ rfl (fun M hW => ?_)
  refine aw_ifeq_b 5 12 dX12_doubt_5 (by decide) (fun h5 => ?_) (fun h5 => ?_)
  · exact absurd hno h5
  · refine aw_icm1 8 dX12_doubt_8 ?_
    refine aw_goto 9 17 dX12_doubt_9 (by decide) ?_
    refine aw_iret 17 dX12_doubt_17 rfl (Nat.zero_le _) (Nat.zero_le _) ?_
    exact ⟨rfl, hW⟩

set_option maxHeartbeats 4000000 in
set_option maxRecDepth 100000 in
theorem c_X12_doubt {τ : TT} {p : Nat} (hw : WP τ) (hp : p < nP τ) (hl : WL τ) (hn : WN τ) : RE mX12_doubt rmX12_doubt [.int (nI p)] τ (some (.int (dbt τ p))) (τ) := by
  intro M0 hW0
  refine am_of rfl rfl (ls := [some (.ref 25), some (.int (nI p))]) rfl ?_
  suffices HH : ∀ M, RO τ M0 M → AW mX12_doubt rmX12_doubt (fun r' M' => r' = (some (.int (dbt τ p))) ∧ ∃ σ, RO σ M0 M' ∧ Obs σ (τ)) 0 [some (.ref 25), some (.int (nI p))] [] M 0 0 from HH M0 ⟨hW0, Off.rf M0⟩
  intro M hW
  have hn12 := hw.1.1
  have hip := ir_nI (n := nP τ) (by omega) hp
  refine aw_aload0 0 dX12_doubt_0 ?_
  refine aw_iload1 1 dX12_doubt_1 ?_
  refine rw_call1 2 dX12_doubt_2 (c_X12_noPicture hw) ckV_RX12_146 cd_X12_noPicture rfl hW rfl (Nat.le_of_ble_eq_true rfl) ⟨⟨by decide, by decide⟩, by decide, by decide⟩ rfl (fun M hW => ?_)
  refine aw_ifeq_b 5 12 dX12_doubt_5 (by decide) (fun h5 => ?_) (fun h5 => ?_)
  · refine aw_aload0 12 dX12_doubt_12 ?_
    refine aw_iload1 13 dX12_doubt_13 ?_
    refine re_call1 14 dX12_doubt_14 (c_X12_doubtOn hw hp hl hn) ckV_RX12_257 cd_X12_doubtOn rfl hW rfl (Nat.le_of_ble_eq_true rfl) ⟨⟨by decide, by decide⟩, by decide, by decide⟩ rfl (fun ρ M hoρ hW => ?_)
    refine aw_iret 17 dX12_doubt_17 rfl (Nat.zero_le _) (Nat.zero_le _) ?_
    exact ⟨rfl, _, hW, hoρ⟩
  · exact absurd hip h5

def rmX12_whole : Room := { frames := 7, cells := 0, slots := 0, locals := 156 }
set_option maxHeartbeats 4000000 in
set_option maxRecDepth 100000 in
theorem n_X12_whole {τ : TT} {v : Int32} (hw : WP τ) (hno : ¬ ir v (nP τ)) : RD mX12_whole rmX12_whole [.int v] τ (some (.int (-1))) (τ) := by
  intro M0 hW0
  refine am_of rfl rfl (ls := [some (.ref 25), some (.int v), none, none]) rfl ?_
  suffices HH : ∀ M, RO τ M0 M → AW mX12_whole rmX12_whole (fun r' M' => r' = (some (.int (-1))) ∧ RO (τ) M0 M') 0 [some (.ref 25), some (.int v), none, none] [] M 0 0 from HH M0 ⟨hW0, Off.rf M0⟩
  intro M hW
  refine aw_aload0 0 dX12_whole_0 ?_
  refine aw_iload1 1 dX12_whole_1 ?_
  refine rw_call1 2 dX12_whole_2 (c_X12_noPicture hw) ckV_RX12_146 cd_X12_noPicture rfl hW rfl (Nat.le_of_ble_eq_true rfl) ⟨⟨by decide, by decide⟩, by decide, by decide⟩ rfl (fun M hW => ?_)
  refine aw_ifeq_b 5 10 dX12_whole_5 (by decide) (fun h5 => ?_) (fun h5 => ?_)
  · exact absurd hno h5
  · refine aw_icm1 8 dX12_whole_8 ?_
    refine aw_iret 9 dX12_whole_9 rfl (Nat.zero_le _) (Nat.zero_le _) ?_
    exact ⟨rfl, hW⟩

set_option maxHeartbeats 4000000 in
set_option maxRecDepth 100000 in
theorem c_X12_whole {τ : TT} {p : Nat} (hw : WP τ) (hp : p < nP τ) (hl : WL τ) (hn : WN τ) : RE mX12_whole rmX12_whole [.int (nI p)] τ (some (.int (sWh τ p))) (τ) := by
  intro M0 hW0
  refine am_of rfl rfl (ls := [some (.ref 25), some (.int (nI p)), none, none]) rfl ?_
  suffices HH : ∀ M, RO τ M0 M → AW mX12_whole rmX12_whole (fun r' M' => r' = (some (.int (sWh τ p))) ∧ ∃ σ, RO σ M0 M' ∧ Obs σ (τ)) 0 [some (.ref 25), some (.int (nI p)), none, none] [] M 0 0 from HH M0 ⟨hW0, Off.rf M0⟩
  intro M hW
  have hn12 := hw.1.1
  have hip := ir_nI (n := nP τ) (by omega) hp
  unfold sWh
  suffices HS : ∀ v, v = whO τ 13 (some p) (if dbt τ p < 0 then 1 else 0) → AW mX12_whole rmX12_whole (fun r' M' => r' = some (.int (if ¬ v = 0 then 1 else 0)) ∧ ∃ σ, RO σ M0 M' ∧ Obs σ τ) 0 [some (.ref 25), some (.int (nI p)), none, none] [] M 0 0 from HS _ rfl
  intro v hv
  refine aw_aload0 0 dX12_whole_0 ?_
  refine aw_iload1 1 dX12_whole_1 ?_
  refine rw_call1 2 dX12_whole_2 (c_X12_noPicture hw) ckV_RX12_146 cd_X12_noPicture rfl hW rfl (Nat.le_of_ble_eq_true rfl) ⟨⟨by decide, by decide⟩, by decide, by decide⟩ rfl (fun M hW => ?_)
  refine aw_ifeq_b 5 10 dX12_whole_5 (by decide) (fun h5 => ?_) (fun h5 => ?_)
  · refine aw_aload0 10 dX12_whole_10 ?_
    refine aw_iload1 11 dX12_whole_11 ?_
    refine re_call1 12 dX12_whole_12 (c_X12_doubtOn hw hp hl hn) ckV_RX12_257 cd_X12_doubtOn rfl hW rfl (Nat.le_of_ble_eq_true rfl) ⟨⟨by decide, by decide⟩, by decide, by decide⟩ rfl (fun ρ M hoρ hW => ?_)
    refine aw_if_ge 15 22 dX12_whole_15 (by decide) (fun h15 => ?_) (fun h15 => ?_)
    · rw [if_neg (Int32.not_lt.mpr h15)] at hv
      refine aw_ic0 22 dX12_whole_22 ?_
      refine aw_istore2 23 dX12_whole_23 rfl ?_
      refine aw_iload1 24 dX12_whole_24 ?_
      refine aw_istore3 25 dX12_whole_25 rfl ?_
      have LP26 : ∀ (dd : Nat) (xo : Option Nat) (d : Nat) (b : Int32) (M : Mem), xo.elim 0 (· + 1) = dd → (∀ x, xo = some x → x < nP τ) → (∀ x, xo = some x → x < d) → (v = whO τ d xo b) → (RO ρ M0 M) → AW mX12_whole rmX12_whole (fun r' M' => r' = some (.int (if ¬ v = 0 then 1 else 0)) ∧ ∃ σ, RO σ M0 M' ∧ Obs σ τ) 26 [some (.ref 25), some (.int (nI p)), some (.int b), some (.int (ob xo))] [] M 0 0 := by
        intro dd
        induction dd using Nat.strongRecOn with
        | _ dd ih26 =>
          intro xo d b M hdd hxo hd hv hW
          cases xo with
          | none =>
            refine aw_iload3 26 dX12_whole_26 ?_
            refine aw_if_lt 27 59 dX12_whole_27 (by decide) (fun _ => ?_) (fun h => absurd (show ob none < 0 by decide) h)
            have hv2 : v = b := by rw [hv]; cases d <;> rfl
            subst hv2
            refine aw_iload2 59 dX12_whole_59 ?_
            refine aw_if_eq 60 67 dX12_whole_60 (by decide) (fun h60 => ?_) (fun h60 => ?_)
            · refine aw_ic0 67 dX12_whole_67 ?_
              refine aw_iret 68 dX12_whole_68 rfl (Nat.zero_le _) (Nat.zero_le _) ?_
              refine ⟨?_, _, hW, hoρ⟩
              first
                | (rw [if_neg (nn h60)]; done)
                | (rw [if_pos h60]; done)
            · refine aw_ic1 63 dX12_whole_63 ?_
              refine aw_goto 64 68 dX12_whole_64 (by decide) ?_
              refine aw_iret 68 dX12_whole_68 rfl (Nat.zero_le _) (Nat.zero_le _) ?_
              refine ⟨?_, _, hW, hoρ⟩
              first
                | (rw [if_neg (nn h60)]; done)
                | (rw [if_pos h60]; done)
          | some x =>
            have hx := hxo x rfl
            refine aw_iload3 26 dX12_whole_26 ?_
            refine aw_if_ltN 27 59 x dX12_whole_27 (by decide) rfl (by omega) ?_
            have hd1 := hd x rfl
            obtain ⟨d, rfl⟩ : ∃ q, d = q + 1 := ⟨d - 1, by omega⟩
            replace hv : v = whO τ d (nx τ x) (if ¬ b = 0 ∧ ¬ τ 16 x = 2 then 1 else 0) := hv
            have hnx := nx_ok hn hx hn12
            refine aw_iload2 30 dX12_whole_30 ?_
            refine aw_if_eq 31 48 dX12_whole_31 (by decide) (fun h31 => ?_) (fun h31 => ?_)
            · rw [if_neg (nl (nn h31))] at hv
              refine aw_ic0 48 dX12_whole_48 ?_
              refine aw_istore2 49 dX12_whole_49 rfl ?_
              refine aw_aload0 50 dX12_whole_50 ?_
              refine aw_iload3 51 dX12_whole_51 ?_
              refine rw_call1 52 dX12_whole_52 (show RD mX12_nextOn rmX12_nextOn [.int (nI x)] ρ (some (.int (ob (nx τ x)))) ρ from rd_r (c_X12_nextOn (p := x) (by omega)) (by rw [hoρ.nxte]; exact hnx.1)) ckV_RX12_254 cd_X12_nextOn rfl hW rfl (Nat.le_of_ble_eq_true rfl) ⟨⟨by decide, by decide⟩, by decide, by decide⟩ rfl (fun M hW => ?_)
              refine aw_istore3 55 dX12_whole_55 rfl ?_
              refine aw_goto 56 26 dX12_whole_56 (by decide) ?_
              exact ih26 _ (by rw [← hdd]; exact hnx.2.1) (nx τ x) d _ M rfl (fun y q => by have := hnx.2.2 y q; omega) (fun y q => by have := hnx.2.2 y q; omega) hv hW
            · refine aw_aload0 34 dX12_whole_34 ?_
              refine rw_ga 35 16 dX12_whole_35 ckF_RX12_37_12 (by decide) (by decide) hW ?_
              refine aw_iload3 38 dX12_whole_38 ?_
              refine rw_ld 39 16 (x) dX12_whole_39 hW rfl (show x < 12 by omega) ?_
              refine aw_topi (show _ = τ 16 x by rw [hoρ 16 (by decide)]) ?_
              refine aw_ic2 40 dX12_whole_40 ?_
              refine aw_icmp_eq 41 48 dX12_whole_41 (by decide) (fun h41 => ?_) (fun h41 => ?_)
              · rw [if_neg (nr (nn h41))] at hv
                refine aw_ic0 48 dX12_whole_48 ?_
                refine aw_istore2 49 dX12_whole_49 rfl ?_
                refine aw_aload0 50 dX12_whole_50 ?_
                refine aw_iload3 51 dX12_whole_51 ?_
                refine rw_call1 52 dX12_whole_52 (show RD mX12_nextOn rmX12_nextOn [.int (nI x)] ρ (some (.int (ob (nx τ x)))) ρ from rd_r (c_X12_nextOn (p := x) (by omega)) (by rw [hoρ.nxte]; exact hnx.1)) ckV_RX12_254 cd_X12_nextOn rfl hW rfl (Nat.le_of_ble_eq_true rfl) ⟨⟨by decide, by decide⟩, by decide, by decide⟩ rfl (fun M hW => ?_)
                refine aw_istore3 55 dX12_whole_55 rfl ?_
                refine aw_goto 56 26 dX12_whole_56 (by decide) ?_
                exact ih26 _ (by rw [← hdd]; exact hnx.2.1) (nx τ x) d _ M rfl (fun y q => by have := hnx.2.2 y q; omega) (fun y q => by have := hnx.2.2 y q; omega) hv hW
              · rw [if_pos (And.intro h31 h41)] at hv
                refine aw_ic1 44 dX12_whole_44 ?_
                refine aw_goto 45 49 dX12_whole_45 (by decide) ?_
                refine aw_istore2 49 dX12_whole_49 rfl ?_
                refine aw_aload0 50 dX12_whole_50 ?_
                refine aw_iload3 51 dX12_whole_51 ?_
                refine rw_call1 52 dX12_whole_52 (show RD mX12_nextOn rmX12_nextOn [.int (nI x)] ρ (some (.int (ob (nx τ x)))) ρ from rd_r (c_X12_nextOn (p := x) (by omega)) (by rw [hoρ.nxte]; exact hnx.1)) ckV_RX12_254 cd_X12_nextOn rfl hW rfl (Nat.le_of_ble_eq_true rfl) ⟨⟨by decide, by decide⟩, by decide, by decide⟩ rfl (fun M hW => ?_)
                refine aw_istore3 55 dX12_whole_55 rfl ?_
                refine aw_goto 56 26 dX12_whole_56 (by decide) ?_
                exact ih26 _ (by rw [← hdd]; exact hnx.2.1) (nx τ x) d _ M rfl (fun y q => by have := hnx.2.2 y q; omega) (fun y q => by have := hnx.2.2 y q; omega) hv hW
      exact LP26 _ (some p) 13 _ M rfl (fun x q => by cases q; exact hp) (fun x q => by cases q; omega) hv hW
    · rw [if_pos (Int32.not_le.mp h15)] at hv
      refine aw_ic1 18 dX12_whole_18 ?_
      refine aw_goto 19 23 dX12_whole_19 (by decide) ?_
      refine aw_istore2 23 dX12_whole_23 rfl ?_
      refine aw_iload1 24 dX12_whole_24 ?_
      refine aw_istore3 25 dX12_whole_25 rfl ?_
      have LP26 : ∀ (dd : Nat) (xo : Option Nat) (d : Nat) (b : Int32) (M : Mem), xo.elim 0 (· + 1) = dd → (∀ x, xo = some x → x < nP τ) → (∀ x, xo = some x → x < d) → (v = whO τ d xo b) → (RO ρ M0 M) → AW mX12_whole rmX12_whole (fun r' M' => r' = some (.int (if ¬ v = 0 then 1 else 0)) ∧ ∃ σ, RO σ M0 M' ∧ Obs σ τ) 26 [some (.ref 25), some (.int (nI p)), some (.int b), some (.int (ob xo))] [] M 0 0 := by
        intro dd
        induction dd using Nat.strongRecOn with
        | _ dd ih26 =>
          intro xo d b M hdd hxo hd hv hW
          cases xo with
          | none =>
            refine aw_iload3 26 dX12_whole_26 ?_
            refine aw_if_lt 27 59 dX12_whole_27 (by decide) (fun _ => ?_) (fun h => absurd (show ob none < 0 by decide) h)
            have hv2 : v = b := by rw [hv]; cases d <;> rfl
            subst hv2
            refine aw_iload2 59 dX12_whole_59 ?_
            refine aw_if_eq 60 67 dX12_whole_60 (by decide) (fun h60 => ?_) (fun h60 => ?_)
            · refine aw_ic0 67 dX12_whole_67 ?_
              refine aw_iret 68 dX12_whole_68 rfl (Nat.zero_le _) (Nat.zero_le _) ?_
              refine ⟨?_, _, hW, hoρ⟩
              first
                | (rw [if_neg (nn h60)]; done)
                | (rw [if_pos h60]; done)
            · refine aw_ic1 63 dX12_whole_63 ?_
              refine aw_goto 64 68 dX12_whole_64 (by decide) ?_
              refine aw_iret 68 dX12_whole_68 rfl (Nat.zero_le _) (Nat.zero_le _) ?_
              refine ⟨?_, _, hW, hoρ⟩
              first
                | (rw [if_neg (nn h60)]; done)
                | (rw [if_pos h60]; done)
          | some x =>
            have hx := hxo x rfl
            refine aw_iload3 26 dX12_whole_26 ?_
            refine aw_if_ltN 27 59 x dX12_whole_27 (by decide) rfl (by omega) ?_
            have hd1 := hd x rfl
            obtain ⟨d, rfl⟩ : ∃ q, d = q + 1 := ⟨d - 1, by omega⟩
            replace hv : v = whO τ d (nx τ x) (if ¬ b = 0 ∧ ¬ τ 16 x = 2 then 1 else 0) := hv
            have hnx := nx_ok hn hx hn12
            refine aw_iload2 30 dX12_whole_30 ?_
            refine aw_if_eq 31 48 dX12_whole_31 (by decide) (fun h31 => ?_) (fun h31 => ?_)
            · rw [if_neg (nl (nn h31))] at hv
              refine aw_ic0 48 dX12_whole_48 ?_
              refine aw_istore2 49 dX12_whole_49 rfl ?_
              refine aw_aload0 50 dX12_whole_50 ?_
              refine aw_iload3 51 dX12_whole_51 ?_
              refine rw_call1 52 dX12_whole_52 (show RD mX12_nextOn rmX12_nextOn [.int (nI x)] ρ (some (.int (ob (nx τ x)))) ρ from rd_r (c_X12_nextOn (p := x) (by omega)) (by rw [hoρ.nxte]; exact hnx.1)) ckV_RX12_254 cd_X12_nextOn rfl hW rfl (Nat.le_of_ble_eq_true rfl) ⟨⟨by decide, by decide⟩, by decide, by decide⟩ rfl (fun M hW => ?_)
              refine aw_istore3 55 dX12_whole_55 rfl ?_
              refine aw_goto 56 26 dX12_whole_56 (by decide) ?_
              exact ih26 _ (by rw [← hdd]; exact hnx.2.1) (nx τ x) d _ M rfl (fun y q => by have := hnx.2.2 y q; omega) (fun y q => by have := hnx.2.2 y q; omega) hv hW
            · refine aw_aload0 34 dX12_whole_34 ?_
              refine rw_ga 35 16 dX12_whole_35 ckF_RX12_37_12 (by decide) (by decide) hW ?_
              refine aw_iload3 38 dX12_whole_38 ?_
              refine rw_ld 39 16 (x) dX12_whole_39 hW rfl (show x < 12 by omega) ?_
              refine aw_topi (show _ = τ 16 x by rw [hoρ 16 (by decide)]) ?_
              refine aw_ic2 40 dX12_whole_40 ?_
              refine aw_icmp_eq 41 48 dX12_whole_41 (by decide) (fun h41 => ?_) (fun h41 => ?_)
              · rw [if_neg (nr (nn h41))] at hv
                refine aw_ic0 48 dX12_whole_48 ?_
                refine aw_istore2 49 dX12_whole_49 rfl ?_
                refine aw_aload0 50 dX12_whole_50 ?_
                refine aw_iload3 51 dX12_whole_51 ?_
                refine rw_call1 52 dX12_whole_52 (show RD mX12_nextOn rmX12_nextOn [.int (nI x)] ρ (some (.int (ob (nx τ x)))) ρ from rd_r (c_X12_nextOn (p := x) (by omega)) (by rw [hoρ.nxte]; exact hnx.1)) ckV_RX12_254 cd_X12_nextOn rfl hW rfl (Nat.le_of_ble_eq_true rfl) ⟨⟨by decide, by decide⟩, by decide, by decide⟩ rfl (fun M hW => ?_)
                refine aw_istore3 55 dX12_whole_55 rfl ?_
                refine aw_goto 56 26 dX12_whole_56 (by decide) ?_
                exact ih26 _ (by rw [← hdd]; exact hnx.2.1) (nx τ x) d _ M rfl (fun y q => by have := hnx.2.2 y q; omega) (fun y q => by have := hnx.2.2 y q; omega) hv hW
              · rw [if_pos (And.intro h31 h41)] at hv
                refine aw_ic1 44 dX12_whole_44 ?_
                refine aw_goto 45 49 dX12_whole_45 (by decide) ?_
                refine aw_istore2 49 dX12_whole_49 rfl ?_
                refine aw_aload0 50 dX12_whole_50 ?_
                refine aw_iload3 51 dX12_whole_51 ?_
                refine rw_call1 52 dX12_whole_52 (show RD mX12_nextOn rmX12_nextOn [.int (nI x)] ρ (some (.int (ob (nx τ x)))) ρ from rd_r (c_X12_nextOn (p := x) (by omega)) (by rw [hoρ.nxte]; exact hnx.1)) ckV_RX12_254 cd_X12_nextOn rfl hW rfl (Nat.le_of_ble_eq_true rfl) ⟨⟨by decide, by decide⟩, by decide, by decide⟩ rfl (fun M hW => ?_)
                refine aw_istore3 55 dX12_whole_55 rfl ?_
                refine aw_goto 56 26 dX12_whole_56 (by decide) ?_
                exact ih26 _ (by rw [← hdd]; exact hnx.2.1) (nx τ x) d _ M rfl (fun y q => by have := hnx.2.2 y q; omega) (fun y q => by have := hnx.2.2 y q; omega) hv hW
      exact LP26 _ (some p) 13 _ M rfl (fun x q => by cases q; exact hp) (fun x q => by cases q; omega) hv hW
  · exact absurd hip h5

def rmX12_doubtful : Room := { frames := 7, cells := 0, slots := 0, locals := 156 }
set_option maxHeartbeats 4000000 in
set_option maxRecDepth 100000 in
theorem c_X12_doubtful {τ : TT}  (hw : WP τ) (hl : WL τ) (hn : WN τ) (hk : WK τ) : RE mX12_doubtful rmX12_doubtful [] τ (some (.int (dfl τ (nK τ)))) (τ) := by
  intro M0 hW0
  refine am_of rfl rfl (ls := [some (.ref 25), none, none]) rfl ?_
  suffices HH : ∀ M, RO τ M0 M → AW mX12_doubtful rmX12_doubtful (fun r' M' => r' = (some (.int (dfl τ (nK τ)))) ∧ ∃ σ, RO σ M0 M' ∧ Obs σ (τ)) 0 [some (.ref 25), none, none] [] M 0 0 from HH M0 ⟨hW0, Off.rf M0⟩
  intro M hW
  have hn12 := hw.1.1
  have hk9 := hk.1.1
  refine aw_ic0 0 dX12_doubtful_0 ?_
  refine aw_istore1 1 dX12_doubtful_1 rfl ?_
  refine aw_ic0 2 dX12_doubtful_2 ?_
  refine aw_istore2 3 dX12_doubtful_3 rfl ?_
  have LP4 : ∀ (dd : Nat) (k : Nat) (ρ : TT) (M : Mem), nK τ - k = dd → (k ≤ nK τ) → (Obs ρ τ) → (RO ρ M0 M) → AW mX12_doubtful rmX12_doubtful (fun r' M' => r' = (some (.int (dfl τ (nK τ)))) ∧ ∃ σ, RO σ M0 M' ∧ Obs σ (τ)) 4 [some (.ref 25), some (.int (dfl τ k)), some (.int (nI k))] [] M 0 0 := by
    intro dd
    induction dd using Nat.strongRecOn with
    | _ dd ih4 =>
      intro k ρ M hdd hkk hr hW
      refine aw_iload2 4 dX12_doubtful_4 ?_
      refine aw_aload0 5 dX12_doubtful_5 ?_
      refine rw_gi 6 24 dX12_doubtful_6 ckF_RX12_291_12 (by decide) rfl hW ?_
      refine aw_topi (w := nI (nK τ)) (by rw [hr 24 (by decide)]; exact hk.1.2) ?_
      refine aw_icmp_geN 9 41 (k) (nK τ) dX12_doubtful_9 (by decide) rfl rfl (by omega) (by omega) (fun h9 => ?_) (fun h9 => ?_)
      · refine aw_iload1 41 dX12_doubtful_41 ?_
        refine aw_iret 42 dX12_doubtful_42 rfl (Nat.zero_le _) (Nat.zero_le _) ?_
        have he : k = nK τ := by omega
        subst he
        exact ⟨rfl, _, hW, hr⟩
      · obtain ⟨q, hq, hq2⟩ := hk.2 k (by omega)
        have e25 : dgt (τ 25) k = q := by unfold dgt; rw [hq2, nI_clamp (by omega)]
        refine aw_iload1 12 dX12_doubtful_12 ?_
        refine aw_aload0 13 dX12_doubtful_13 ?_
        refine aw_aload0 14 dX12_doubtful_14 ?_
        refine rw_ga 15 25 dX12_doubtful_15 ckF_RX12_58_12 (by decide) (by decide) hW ?_
        refine aw_iload2 18 dX12_doubtful_18 ?_
        refine rw_ld 19 25 (k) dX12_doubtful_19 hW rfl (show k < 9 by omega) ?_
        refine aw_topi (w := nI q) (by rw [hr 25 (by decide)]; exact hq2) ?_
        refine re_call1 20 dX12_doubtful_20 (show RE mX12_doubtOn rmX12_doubtOn [.int (nI q)] ρ (some (.int (dbt τ q))) ρ from by have := c_X12_doubtOn (τ := ρ) (hr.WPe hw) (by rw [hr.nPe]; exact hq) (hr.WLe hl) (hr.WNe hn); unfold dbt at this ⊢; rwa [hr.dbOe] at this) ckV_RX12_257 cd_X12_doubtOn rfl hW rfl (Nat.le_of_ble_eq_true rfl) ⟨⟨by decide, by decide⟩, by decide, by decide⟩ rfl (fun ξ M hoξ hW => ?_)
        refine aw_if_ge 23 30 dX12_doubtful_23 (by decide) (fun h23 => ?_) (fun h23 => ?_)
        · refine aw_ic1 30 dX12_doubtful_30 ?_
          refine aw_iload2 31 dX12_doubtful_31 ?_
          refine aw_ishl 32 dX12_doubtful_32 ?_
          refine aw_ior 33 dX12_doubtful_33 ?_
          refine aw_topi (show _ = dfl τ (k + 1) by
            rw [dfl_s, e25]
            first
              | rw [if_pos (Int32.not_le.mp h23)]
              | rw [if_neg (Int32.not_lt.mpr h23)]) ?_
          refine aw_istore1 34 dX12_doubtful_34 rfl ?_
          refine aw_iinc2 35 (nI (k + 1)) dX12_doubtful_35 (nI_1 _) rfl ?_
          refine aw_goto 38 4 dX12_doubtful_38 (by decide) ?_
          exact ih4 _ (by omega) (k + 1) ξ M rfl (by omega) (hoξ.trans hr) hW
        · refine aw_ic0 26 dX12_doubtful_26 ?_
          refine aw_goto 27 33 dX12_doubtful_27 (by decide) ?_
          refine aw_ior 33 dX12_doubtful_33 ?_
          refine aw_topi (show _ = dfl τ (k + 1) by
            rw [dfl_s, e25]
            first
              | rw [if_pos (Int32.not_le.mp h23)]
              | rw [if_neg (Int32.not_lt.mpr h23)]) ?_
          refine aw_istore1 34 dX12_doubtful_34 rfl ?_
          refine aw_iinc2 35 (nI (k + 1)) dX12_doubtful_35 (nI_1 _) rfl ?_
          refine aw_goto 38 4 dX12_doubtful_38 (by decide) ?_
          exact ih4 _ (by omega) (k + 1) ξ M rfl (by omega) (hoξ.trans hr) hW
  exact LP4 _ 0 τ M rfl (Nat.zero_le _) (Obs.rf _) hW

