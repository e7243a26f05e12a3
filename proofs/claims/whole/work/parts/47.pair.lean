/-! the class's call and the reference's, side by side (gen/pair.py) -/
def PRi (Zc Zr : YY) (rc rr : Room) (as : List Value) (σ : TT) (M : Mem) : Prop := ∃ (z : Int32) (PC : Mem → Prop) (P : TT → Prop), AP Zc rc (.ref 2 :: as) M (some (.int z)) PC ∧ RP Zr rr as σ (some (.int z)) P ∧ ∀ M', PC M' → Kr M M' ∧ ∀ ρ, P ρ → ∃ α', CW ρ α' M'
def PRl (Zc Zr : YY) (rc rr : Room) (as : List Value) (σ : TT) (M : Mem) : Prop := ∃ (z : Int64) (PC : Mem → Prop) (P : TT → Prop), AP Zc rc (.ref 2 :: as) M (some (.long z)) PC ∧ RP Zr rr as σ (some (.long z)) P ∧ ∀ M', PC M' → Kr M M' ∧ ∀ ρ, P ρ → ∃ α', CW ρ α' M'
section
variable {Zc Zr : YY} {rc rr : Room} {as : List Value} {σ τ1 τ2 : TT} {M : Mem}
theorem RD.rp {r : Option Value} (h : RD Zr rr as σ r τ2) : RP Zr rr as σ r (fun ρ => ρ = τ2) := fun M hM => am_mono (fun r2 N q => ⟨q.1, _, q.2, rfl⟩) (h M hM)
theorem pr_d {z z2 : Int32} (hc : CK Zc rc as M (.int z) τ1) (hr : RD Zr rr as σ (some (.int z2)) τ2) (hz : z2 = z) (ht : Obs τ2 τ1) : PRi Zc Zr rc rr as σ M := by
  subst hz
  exact ⟨_, _, _, hc, hr.rp, fun M' h1 => by obtain ⟨a, b, c⟩ := h1; exact ⟨a, fun ρ h2 => by subst h2; exact ⟨b, c.obs ht⟩⟩⟩
theorem pr_e {z z2 : Int32} (hc : CK Zc rc as M (.int z) τ1) (hr : RE Zr rr as σ (some (.int z2)) τ2) (hz : z2 = z) (ht : Obs τ2 τ1) : PRi Zc Zr rc rr as σ M := by
  subst hz
  exact ⟨_, _, fun ρ => Obs ρ τ2, hc, hr, fun M' h1 => by obtain ⟨a, b, c⟩ := h1; exact ⟨a, fun ρ h2 => ⟨b, c.obs (h2.trans ht)⟩⟩⟩
theorem pr_l {z z2 : Int64} (hc : CK Zc rc as M (.long z) τ1) (hr : RD Zr rr as σ (some (.long z2)) τ2) (hz : z2 = z) (ht : Obs τ2 τ1) : PRl Zc Zr rc rr as σ M := by
  subst hz
  exact ⟨_, _, _, hc, hr.rp, fun M' h1 => by obtain ⟨a, b, c⟩ := h1; exact ⟨a, fun ρ h2 => by subst h2; exact ⟨b, c.obs ht⟩⟩⟩
end
theorem irg_of1 {v : Int32} {b : Nat} (hb : b < 2 ^ 30) (h : irg v 1 b) : ∃ k : Nat, 1 ≤ k ∧ k ≤ b ∧ v = nI k := by
  obtain ⟨k, k1, rfl⟩ := irg_of hb ⟨by have := h.1; omega, h.2⟩
  have := h.1
  rw [nI_toInt (by omega)] at this
  exact ⟨k, by omega, by omega, rfl⟩
theorem n_all {n : Nat} {P : Nat → Prop} (h : ¬ ∀ y, y < n → P y) : ∃ y, y < n ∧ ¬ P y := Classical.byContradiction (fun q => h (fun y hy => Classical.byContradiction (fun z => q ⟨y, hy, z⟩)))
section
variable {σ : TT} {α : AT} {M : Mem}

theorem p_picture (hC : CW σ α M) (w h k l i : Int32) : PRi mX11_picture mX12_picture rmX11_picture rmX12_picture [.int w, .int h, .int k, .int l, .int i] σ M := by
  have hw := hC.wp
  have hl := hC.wl
  have hs := hC.ws
  have hn := hC.wn
  have hk9 := hC.wk
  have h12 := hw.1.1
  have h6 := hl.1
  by_cases hsk : irg k 0 3
  · obtain ⟨k, hk, rfl⟩ := irg_of (b := 3) (by decide) hsk
    by_cases hok : irg w 1 4 ∧ irg h 1 4 ∧ irg l 0 2
    · obtain ⟨w, w1, w2, rfl⟩ := irg_of1 (b := 4) (by decide) hok.1
      obtain ⟨h, h1, h2, rfl⟩ := irg_of1 (b := 4) (by decide) hok.2.1
      have hmu := wmul w2 h2
      by_cases hb : bar σ k l i (nI (w * h)).toInt64 = 0
      · obtain ⟨i, n, rfl, e2, h0, hll, hle⟩ := bar_ok hs hk hb
        have h60 := (hs.ok hk h0).1
        have e3 : w * h = n := (nI_eq (by omega) (by omega)).mp e2
        subst e3
        by_cases hall : ∀ y, y < w * h → irg (σ 30 (60 * k + i + y)) 0 99
        · by_cases hf : nP σ = 12
          · exact pr_d (n5_X11_picture hC ⟨w1, w2⟩ ⟨h1, h2⟩ hk hok.2.2 h0 hll hle hall hf) (n5_X12_picture ⟨w1, w2⟩ ⟨h1, h2⟩ hk hok.2.2 hs h0 hll hle hw hall hf) rfl (Obs.rf _)
          · exact pr_d (c_X11_picture hC ⟨w1, w2⟩ ⟨h1, h2⟩ hk hok.2.2 h0 hll hle hall hf) (c_X12_picture ⟨w1, w2⟩ ⟨h1, h2⟩ hk hok.2.2 hs h0 hll hle hw hall hf) rfl (Obs.rf _)
        · exact pr_d (n4_X11_picture hC ⟨w1, w2⟩ ⟨h1, h2⟩ hk hok.2.2 h0 hll hle (n_all hall)) (n4_X12_picture ⟨w1, w2⟩ ⟨h1, h2⟩ hk hok.2.2 hs h0 hll hle (n_all hall)) rfl (Obs.rf _)
      · exact pr_d (n3_X11_picture hC ⟨w1, w2⟩ ⟨h1, h2⟩ hk hok.2.2 hb) (n3_X12_picture ⟨w1, w2⟩ ⟨h1, h2⟩ hk hok.2.2 hb) rfl (Obs.rf _)
    · have hno : ¬ irg w 1 4 ∨ ¬ irg h 1 4 ∨ ¬ irg l 0 2 := by
        by_cases a : irg w 1 4
        · by_cases b : irg h 1 4
          · exact Or.inr (Or.inr (fun c => hok ⟨a, b, c⟩))
          · exact Or.inr (Or.inl b)
        · exact Or.inl a
      exact pr_d (n2_X11_picture hC hk hno) (n2_X12_picture hk hno) rfl (Obs.rf _)
  · exact pr_d (n_X11_picture hC hsk) (n_X12_picture hsk) rfl (Obs.rf _)

theorem p_ofPicture (hC : CW σ α M) (v w : Int32) : PRi mX11_ofPicture mX12_ofPicture rmX11_ofPicture rmX12_ofPicture [.int v, .int w] σ M := by
  have hw := hC.wp
  have hl := hC.wl
  have hs := hC.ws
  have hn := hC.wn
  have hk9 := hC.wk
  have h12 := hw.1.1
  have h6 := hl.1
  by_cases hv : ir v (nP σ)
  · obtain ⟨p, hp, rfl⟩ := ir_of hv (by omega)
    refine pr_d (c_X11_ofPicture hC hp) (c_X12_ofPicture hw hp) rfl ?_
    unfold tOf
    by_cases e : w = 3
    · rw [if_pos e]; exact lay_obs
    · rw [if_neg e]; exact Obs.rf _
  · exact pr_d (n_X11_ofPicture hC hv) (n_X12_ofPicture hw hv) rfl (Obs.rf _)

theorem p_alter (hC : CW σ α M) (v j w : Int32) : PRi mX11_alter mX12_alter rmX11_alter rmX12_alter [.int v, .int j, .int w] σ M := by
  have hw := hC.wp
  have hl := hC.wl
  have hs := hC.ws
  have hn := hC.wn
  have hk9 := hC.wk
  have h12 := hw.1.1
  have h6 := hl.1
  by_cases hv : ir v (nP σ)
  · obtain ⟨p, hp, rfl⟩ := ir_of hv (by omega)
    by_cases hj : irg j 0 15
    · obtain ⟨k, hk, rfl⟩ := irg_of (b := 15) (by decide) hj
      by_cases ht : thr σ p k
      · exact pr_d (c_X11_alter hC hp hk ht) (c_X12_alter hw hp hk ht) rfl (Obs.rf _)
      · exact pr_d (n3_X11_alter hC hp hk ht) (n2_X12_alter hw hp (fun q => ht (by have := q.2; rw [nI_clamp (by omega)] at this; exact this))) rfl (Obs.rf _)
    · exact pr_d (n2_X11_alter hC hp hj) (n2_X12_alter hw hp (fun q => hj ⟨q.1.1, by have := q.1.2; omega⟩)) rfl (Obs.rf _)
  · exact pr_d (n_X11_alter hC hv) (n_X12_alter hw hv) rfl (Obs.rf _)

theorem p_lens (hC : CW σ α M) (v : Int32) : PRi mX11_lens mX12_lens rmX11_lens rmX12_lens [.int v] σ M := by
  have hw := hC.wp
  have hl := hC.wl
  have hs := hC.ws
  have hn := hC.wn
  have hk9 := hC.wk
  have h12 := hw.1.1
  have h6 := hl.1
  have q := c_X12_lens (τ := σ) (v := v) hl
  by_cases hv : irg v 1 9972
  · by_cases hf : nL σ = 6
    · rw [if_pos hv, if_pos hf, if_neg (fun z => z.2 hf)] at q
      exact pr_d (n2_X11_lens hC hv hf) q rfl (Obs.rf _)
    · rw [if_pos hv, if_neg hf, if_pos ⟨hv, hf⟩] at q
      exact pr_d (c_X11_lens hC hv hf) q rfl (Obs.rf _)
  · rw [if_neg hv, if_neg (fun z => hv z.1)] at q
    exact pr_d (n_X11_lens hC hv) q rfl (Obs.rf _)

theorem p_steal (hC : CW σ α M) (v w : Int32) : PRi mX11_steal mX12_steal rmX11_steal rmX12_steal [.int v, .int w] σ M := by
  have hw := hC.wp
  have hl := hC.wl
  have hs := hC.ws
  have hn := hC.wn
  have hk9 := hC.wk
  have h12 := hw.1.1
  have h6 := hl.1
  by_cases hv : ir v (nL σ)
  · obtain ⟨l, hll, rfl⟩ := ir_of hv (by omega)
    exact pr_d (c_X11_steal hC hll) (c_X12_steal hl hll) rfl (Obs.rf _)
  · exact pr_d (n_X11_steal hC hv) (n_X12_steal hl hv) rfl (Obs.rf _)

theorem p_take (hC : CW σ α M) (v w h : Int32) : PRi mX11_take mX12_take rmX11_take rmX12_take [.int v, .int w, .int h] σ M := by
  have hw := hC.wp
  have hl := hC.wl
  have hs := hC.ws
  have hn := hC.wn
  have hk9 := hC.wk
  have h12 := hw.1.1
  have h6 := hl.1
  by_cases hv : ir v (nP σ)
  · obtain ⟨p, hp, rfl⟩ := ir_of hv (by omega)
    by_cases hw2 : ir w (nL σ)
    · obtain ⟨l, hll, rfl⟩ := ir_of hw2 (by omega)
      have q := c_X12_take (h := h) hw hp hl hll
      by_cases hh : irg h 0 999
      · by_cases hno : σ 16 p < 0
        · rw [if_pos hh, if_pos hno, if_pos ⟨hh, hno⟩] at q
          exact pr_d (c_X11_take hC hp hll hh hno) q rfl (Obs.rf _)
        · rw [if_pos hh, if_neg hno, if_neg (fun z => hno z.2)] at q
          exact pr_d (n5_X11_take hC hp hll hh hno) q rfl (Obs.rf _)
      · rw [if_neg hh, if_neg (fun z => hh z.1)] at q
        exact pr_d (n4_X11_take hC hp hll hh) q rfl (Obs.rf _)
    · exact pr_d (n3_X11_take hC hp hw2) (n_X12_take hw hl (Or.inr hw2)) rfl (Obs.rf _)
  · by_cases hw2 : ir w (nL σ)
    · obtain ⟨l, hll, rfl⟩ := ir_of hw2 (by omega)
      exact pr_d (n2_X11_take hC hv hll) (n_X12_take hw hl (Or.inl hv)) rfl (Obs.rf _)
    · exact pr_d (n_X11_take hC hv hw2) (n_X12_take hw hl (Or.inl hv)) rfl (Obs.rf _)

theorem p_hush (hC : CW σ α M) (v u w h : Int32) : PRi mX11_hush mX12_hush rmX11_hush rmX12_hush [.int v, .int u, .int w, .int h] σ M := by
  have hw := hC.wp
  have hl := hC.wl
  have hs := hC.ws
  have hn := hC.wn
  have hk9 := hC.wk
  have h12 := hw.1.1
  have h6 := hl.1
  by_cases hv : ir v (nP σ)
  · obtain ⟨p, hp, rfl⟩ := ir_of hv (by omega)
    by_cases hu : ir u (nP σ)
    · obtain ⟨f, hf, rfl⟩ := ir_of hu (by omega)
      by_cases hw2 : ir w (nL σ)
      · obtain ⟨l, hll, rfl⟩ := ir_of hw2 (by omega)
        have q := c_X12_hush (h := h) hw hp hl hll hf
        by_cases hh : irg h 0 999
        · by_cases hno : σ 16 p < 0
          · by_cases hfp : f < p
            · rw [if_pos hh, if_pos ⟨hno, hfp⟩, if_pos ⟨hh, hno, hfp⟩] at q
              exact pr_d (c_X11_hush hC hp hf hll hh hno hfp) q rfl (Obs.rf _)
            · rw [if_pos hh, if_neg (fun z => hfp z.2), if_neg (fun z => hfp z.2.2)] at q
              exact pr_d (n4_X11_hush hC hp hf hll hh hno (by omega)) q rfl (Obs.rf _)
          · rw [if_pos hh, if_neg (fun z => hno z.1), if_neg (fun z => hno z.2.1)] at q
            exact pr_d (n3_X11_hush hC hp hf hll hh hno) q rfl (Obs.rf _)
        · rw [if_neg hh, if_neg (fun z => hh z.1)] at q
          exact pr_d (n2_X11_hush hC hp hf hll hh) q rfl (Obs.rf _)
      · exact pr_d (n110_X11_hush hC hp hf hw2) (n_X12_hush hw hl (Or.inr (Or.inr hw2))) rfl (Obs.rf _)
    · by_cases hw2 : ir w (nL σ)
      · obtain ⟨l, hll, rfl⟩ := ir_of hw2 (by omega)
        exact pr_d (n101_X11_hush hC hp hu hll) (n_X12_hush hw hl (Or.inr (Or.inl hu))) rfl (Obs.rf _)
      · exact pr_d (n100_X11_hush hC hp hu hw2) (n_X12_hush hw hl (Or.inr (Or.inl hu))) rfl (Obs.rf _)
  · by_cases hu : ir u (nP σ)
    · obtain ⟨f, hf, rfl⟩ := ir_of hu (by omega)
      by_cases hw2 : ir w (nL σ)
      · obtain ⟨l, hll, rfl⟩ := ir_of hw2 (by omega)
        exact pr_d (n011_X11_hush hC hv hf hll) (n_X12_hush hw hl (Or.inl hv)) rfl (Obs.rf _)
      · exact pr_d (n010_X11_hush hC hv hf hw2) (n_X12_hush hw hl (Or.inl hv)) rfl (Obs.rf _)
    · by_cases hw2 : ir w (nL σ)
      · obtain ⟨l, hll, rfl⟩ := ir_of hw2 (by omega)
        exact pr_d (n001_X11_hush hC hv hu hll) (n_X12_hush hw hl (Or.inl hv)) rfl (Obs.rf _)
      · exact pr_d (n000_X11_hush hC hv hu hw2) (n_X12_hush hw hl (Or.inl hv)) rfl (Obs.rf _)

theorem p_change (hC : CW σ α M) (v u w h k l i n : Int32) : PRi mX11_change mX12_change rmX11_change rmX12_change [.int v, .int u, .int w, .int h, .int k, .int l, .int i, .int n] σ M := by
  have hw := hC.wp
  have hl := hC.wl
  have hs := hC.ws
  have hn := hC.wn
  have hk9 := hC.wk
  have h12 := hw.1.1
  have h6 := hl.1
  by_cases hv0 : ir v (nP σ)
  · obtain ⟨p, hp, rfl⟩ := ir_of hv0 (by omega)
    by_cases hu0 : ir u (nP σ)
    · obtain ⟨f, hf, rfl⟩ := ir_of hu0 (by omega)
      by_cases hw0 : ir w (nL σ)
      · obtain ⟨a, ha, rfl⟩ := ir_of hw0 (by omega)
        by_cases hk0 : irg k 0 3
        · obtain ⟨k, hk, rfl⟩ := irg_of (b := 3) (by decide) hk0
          by_cases hok : irg h 0 999 ∧ irg l 0 2
          · obtain ⟨hh, hln⟩ := hok
            by_cases hb : bar σ k l i n.toInt64 = 0
            · obtain ⟨i, n, rfl, rfl, h0, hll, hle⟩ := bar_ok hs hk hb
              cases hq : rdA (fun j => σ 30 (60 * k + i + j)) n 5 0 [] with
              | inl e => exact pr_e (n4_X11_change hC hp hf ha hk hh hln h0 hll hle hq) (n4_X12_change hw hp hf hl ha hk hh hln hs h0 hll hle hq) rfl (Obs.rf _)
              | inr ls =>
                by_cases hno : σ 16 p < 0
                · by_cases hfp : f < p
                  · exact ⟨_, _, _, c_X11_change hC hp hf ha hk hh hln h0 hll hle hq hno hfp, c_X12_change hw hp hf hl ha hk hh hln hs h0 hll hle hq hno hfp, fun M' h1 => by
                      obtain ⟨a1, a2, a3⟩ := h1
                      exact ⟨a1, fun ρ h2 => by
                        obtain ⟨-, A, b1, b2⟩ := h2
                        exact ⟨a2, (a3 A b1).obs b2⟩⟩⟩
                  · exact pr_e (n6_X11_change hC hp hf ha hk hh hln h0 hll hle hq hno (by omega)) (n5_X12_change hw hp hf hl ha hk hh hln hs h0 hll hle hq (Or.inr (by omega))) rfl (Obs.rf _)
                · exact pr_e (n5_X11_change hC hp hf ha hk hh hln h0 hll hle hq hno) (n5_X12_change hw hp hf hl ha hk hh hln hs h0 hll hle hq (Or.inl hno)) rfl (Obs.rf _)
            · exact pr_d (n3_X11_change hC hp hf ha hk hh hln hb) (n3_X12_change hw hp hf hl ha hk hh hln hb) rfl (Obs.rf _)
          · have hno : ¬ irg h 0 999 ∨ ¬ irg l 0 2 := by
              by_cases a : irg h 0 999
              · exact Or.inr (fun c => hok ⟨a, c⟩)
              · exact Or.inl a
            exact pr_d (n2_X11_change hC hp hf ha hk hno) (n2_X12_change hw hp hf hl ha hk hno) rfl (Obs.rf _)
        · skip
          exact pr_d (n1110_X11_change hC hp hf ha hk0) (n_X12_change hw hl (Or.inr (Or.inr (Or.inr hk0)))) rfl (Obs.rf _)
      · skip
        by_cases hk0 : irg k 0 3
        · obtain ⟨k, hk, rfl⟩ := irg_of (b := 3) (by decide) hk0
          exact pr_d (n1101_X11_change hC hp hf hw0 hk) (n_X12_change hw hl (Or.inr (Or.inr (Or.inl hw0)))) rfl (Obs.rf _)
        · skip
          exact pr_d (n1100_X11_change hC hp hf hw0 hk0) (n_X12_change hw hl (Or.inr (Or.inr (Or.inl hw0)))) rfl (Obs.rf _)
    · skip
      by_cases hw0 : ir w (nL σ)
      · obtain ⟨a, ha, rfl⟩ := ir_of hw0 (by omega)
        by_cases hk0 : irg k 0 3
        · obtain ⟨k, hk, rfl⟩ := irg_of (b := 3) (by decide) hk0
          exact pr_d (n1011_X11_change hC hp hu0 ha hk) (n_X12_change hw hl (Or.inr (Or.inl hu0))) rfl (Obs.rf _)
        · skip
          exact pr_d (n1010_X11_change hC hp hu0 ha hk0) (n_X12_change hw hl (Or.inr (Or.inl hu0))) rfl (Obs.rf _)
      · skip
        by_cases hk0 : irg k 0 3
        · obtain ⟨k, hk, rfl⟩ := irg_of (b := 3) (by decide) hk0
          exact pr_d (n1001_X11_change hC hp hu0 hw0 hk) (n_X12_change hw hl (Or.inr (Or.inl hu0))) rfl (Obs.rf _)
        · skip
          exact pr_d (n1000_X11_change hC hp hu0 hw0 hk0) (n_X12_change hw hl (Or.inr (Or.inl hu0))) rfl (Obs.rf _)
  · skip
    by_cases hu0 : ir u (nP σ)
    · obtain ⟨f, hf, rfl⟩ := ir_of hu0 (by omega)
      by_cases hw0 : ir w (nL σ)
      · obtain ⟨a, ha, rfl⟩ := ir_of hw0 (by omega)
        by_cases hk0 : irg k 0 3
        · obtain ⟨k, hk, rfl⟩ := irg_of (b := 3) (by decide) hk0
          exact pr_d (n0111_X11_change hC hv0 hf ha hk) (n_X12_change hw hl (Or.inl hv0)) rfl (Obs.rf _)
        · skip
          exact pr_d (n0110_X11_change hC hv0 hf ha hk0) (n_X12_change hw hl (Or.inl hv0)) rfl (Obs.rf _)
      · skip
        by_cases hk0 : irg k 0 3
        · obtain ⟨k, hk, rfl⟩ := irg_of (b := 3) (by decide) hk0
          exact pr_d (n0101_X11_change hC hv0 hf hw0 hk) (n_X12_change hw hl (Or.inl hv0)) rfl (Obs.rf _)
        · skip
          exact pr_d (n0100_X11_change hC hv0 hf hw0 hk0) (n_X12_change hw hl (Or.inl hv0)) rfl (Obs.rf _)
    · skip
      by_cases hw0 : ir w (nL σ)
      · obtain ⟨a, ha, rfl⟩ := ir_of hw0 (by omega)
        by_cases hk0 : irg k 0 3
        · obtain ⟨k, hk, rfl⟩ := irg_of (b := 3) (by decide) hk0
          exact pr_d (n0011_X11_change hC hv0 hu0 ha hk) (n_X12_change hw hl (Or.inl hv0)) rfl (Obs.rf _)
        · skip
          exact pr_d (n0010_X11_change hC hv0 hu0 ha hk0) (n_X12_change hw hl (Or.inl hv0)) rfl (Obs.rf _)
      · skip
        by_cases hk0 : irg k 0 3
        · obtain ⟨k, hk, rfl⟩ := irg_of (b := 3) (by decide) hk0
          exact pr_d (n0001_X11_change hC hv0 hu0 hw0 hk) (n_X12_change hw hl (Or.inl hv0)) rfl (Obs.rf _)
        · skip
          exact pr_d (n0000_X11_change hC hv0 hu0 hw0 hk0) (n_X12_change hw hl (Or.inl hv0)) rfl (Obs.rf _)

theorem p_act (hC : CW σ α M) (v k l i n : Int32) : PRi mX11_act mX12_act rmX11_act rmX12_act [.int v, .int k, .int l, .int i, .int n] σ M := by
  have hw := hC.wp
  have hl := hC.wl
  have hs := hC.ws
  have hn := hC.wn
  have hk9 := hC.wk
  have h12 := hw.1.1
  have h6 := hl.1
  by_cases hv : ir v (nP σ)
  · obtain ⟨p, hp, rfl⟩ := ir_of hv (by omega)
    by_cases hk0 : irg k 0 3
    · obtain ⟨k, hk, rfl⟩ := irg_of (b := 3) (by decide) hk0
      by_cases hln : irg l 0 2
      · by_cases hb : bar σ k l i n.toInt64 = 0
        · obtain ⟨i, n, rfl, rfl, h0, hll, hle⟩ := bar_ok hs hk hb
          cases hq : rdA (fun j => σ 30 (60 * k + i + j)) n 5 0 [] with
          | inl e => exact pr_e (n4_X11_act hC hp hk hln h0 hll hle hq) (n4_X12_act hw hp hk hln hs h0 hll hle hq) rfl (Obs.rf _)
          | inr ls =>
            cases hd : dL (hOf σ p) ls with
            | none => exact pr_e (n5_X11_act hC hp hk hln h0 hll hle hq hd) (n5_X12_act hw hp hk hln hs h0 hll hle hq hd) rfl (Obs.rf _)
            | some u =>
              by_cases hf : nP σ = 12
              · exact pr_e (n6_X11_act hC hp hk hln h0 hll hle hq hd hf) (n6_X12_act hw hp hk hln hs h0 hll hle hq hd hf) rfl (Obs.rf _)
              · exact pr_e (c_X11_act hC hp hk hln h0 hll hle hq hd hf) (c_X12_act hw hp hk hln hs h0 hll hle hq hd hf) rfl (Obs.rf _)
        · exact pr_d (n3_X11_act hC hp hk hln hb) (n3_X12_act hw hp hk hln hb) rfl (Obs.rf _)
      · exact pr_d (n2_X11_act hC hp hk hln) (n2_X12_act hw hp hk hln) rfl (Obs.rf _)
    · exact pr_d (n10_X11_act hC hp hk0) (n_X12_act hw (Or.inr hk0)) rfl (Obs.rf _)
  · by_cases hk0 : irg k 0 3
    · obtain ⟨k, hk, rfl⟩ := irg_of (b := 3) (by decide) hk0
      exact pr_d (n01_X11_act hC hv hk) (n_X12_act hw (Or.inl hv)) rfl (Obs.rf _)
    · exact pr_d (n00_X11_act hC hv hk0) (n_X12_act hw (Or.inl hv)) rfl (Obs.rf _)

theorem p_tear (hC : CW σ α M) (v : Int32) : PRi mX11_tear mX12_tear rmX11_tear rmX12_tear [.int v] σ M := by
  have hw := hC.wp
  have hl := hC.wl
  have hs := hC.ws
  have hn := hC.wn
  have hk9 := hC.wk
  have h12 := hw.1.1
  have h6 := hl.1
  by_cases hv : ir v (nP σ)
  · obtain ⟨p, hp, rfl⟩ := ir_of hv (by omega)
    have q := c_X12_tear hw hp
    by_cases hno : σ 16 p < 0
    · rw [if_pos hno] at q
      exact pr_d (n2_X11_tear hC hp hno) q rfl (Obs.rf _)
    · rw [if_neg hno] at q
      exact pr_d (c_X11_tear hC hp hno) q rfl (Obs.rf _)
  · exact pr_d (n_X11_tear hC hv) (n_X12_tear hw hv) rfl (Obs.rf _)

theorem p_line (hC : CW σ α M) (v w : Int32) : PRi mX11_line mX12_line rmX11_line rmX12_line [.int v, .int w] σ M := by
  have hw := hC.wp
  have hl := hC.wl
  have hs := hC.ws
  have hn := hC.wn
  have hk9 := hC.wk
  have h12 := hw.1.1
  have h6 := hl.1
  by_cases hv : ir v (nP σ)
  · obtain ⟨p, hp, rfl⟩ := ir_of hv (by omega)
    have q := c_X12_line (w := w) hw hp
    by_cases hwi : irg w 0 5
    · by_cases hno : σ 16 p < 0
      · exact pr_d (n3_X11_line hC hp hwi hno) q (by unfold sLn; rw [if_pos hwi, if_pos hno]) (Obs.rf _)
      · rcases (hC.nc p hp hno).2.2 with z | z | z
        · exact pr_d (c0_X11_line hC hp hwi z) q rfl (Obs.rf _)
        · exact pr_d (c1_X11_line hC hp hwi z) q rfl (Obs.rf _)
        · exact pr_d (c2_X11_line hC hp hwi z) q rfl (Obs.rf _)
    · exact pr_d (n2_X11_line hC hp hwi) q (by unfold sLn; rw [if_neg hwi]) (Obs.rf _)
  · exact pr_d (n_X11_line hC hv) (n_X12_line hw hv) rfl (Obs.rf _)

theorem p_speaks (hC : CW σ α M) (v : Int32) : PRi mX11_speaks mX12_speaks rmX11_speaks rmX12_speaks [.int v] σ M := by
  have hw := hC.wp
  have hl := hC.wl
  have hs := hC.ws
  have hn := hC.wn
  have hk9 := hC.wk
  have h12 := hw.1.1
  have h6 := hl.1
  by_cases hv : ir v (nP σ)
  · obtain ⟨p, hp, rfl⟩ := ir_of hv (by omega)
    have q := c_X12_speaks hw hp hl hn
    by_cases hno : σ 16 p < 0
    · rw [if_pos hno] at q
      exact pr_e (n3_X11_speaks hC hp hno) q rfl (Obs.rf _)
    · rw [if_neg hno] at q
      exact pr_e (c_X11_speaks hC hp hno) q rfl (Obs.rf _)
  · exact pr_d (n_X11_speaks hC hv) (n_X12_speaks hw hv) rfl (Obs.rf _)

theorem p_play (hC : CW σ α M) (v : Int32) : PRi mX11_play mX12_play rmX11_play rmX12_play [.int v] σ M := by
  have hw := hC.wp
  have hl := hC.wl
  have hs := hC.ws
  have hn := hC.wn
  have hk9 := hC.wk
  have h12 := hw.1.1
  have h6 := hl.1
  by_cases hv : ir v (nP σ)
  · obtain ⟨p, hp, rfl⟩ := ir_of hv (by omega)
    have q := c_X12_play hw hp hl hn
    by_cases hno : σ 16 p < 0
    · rw [if_neg (fun z => absurd hno (by rw [z]; decide))] at q
      exact pr_e (n3_X11_play hC hp hno) q rfl (Obs.rf _)
    · rcases hC.kd hp hno with z | z | z
      · rw [if_neg (by rw [z]; decide)] at q
        exact pr_e (c0_X11_play hC hp z) q rfl (Obs.rf _)
      · rw [if_pos z] at q
        exact pr_e (c1_X11_play hC hp z) q rfl (Obs.rf _)
      · rw [if_neg (by rw [z]; decide)] at q
        exact pr_e (c2_X11_play hC hp z) q rfl (Obs.rf _)
  · exact pr_d (n_X11_play hC hv) (n_X12_play hw hv) rfl (Obs.rf _)

theorem p_within (hC : CW σ α M) (v : Int32) : PRi mX11_within mX12_within rmX11_within rmX12_within [.int v] σ M := by
  have hw := hC.wp
  have hl := hC.wl
  have hs := hC.ws
  have hn := hC.wn
  have hk9 := hC.wk
  have h12 := hw.1.1
  have h6 := hl.1
  exact pr_d (c_X11_within hC) c_X12_within rfl (Obs.rf _)

theorem p_way (hC : CW σ α M) (v w : Int32) : PRi mX11_way mX12_way rmX11_way rmX12_way [.int v, .int w] σ M := by
  have hw := hC.wp
  have hl := hC.wl
  have hs := hC.ws
  have hn := hC.wn
  have hk9 := hC.wk
  have h12 := hw.1.1
  have h6 := hl.1
  by_cases hv : ir v (nP σ)
  · obtain ⟨p, hp, rfl⟩ := ir_of hv (by omega)
    by_cases hk : irg w (-1) 11
    · exact pr_d (c_X11_way hC hp hk) (c_X12_way hw hp hn hk) rfl (Obs.rf _)
    · exact pr_d (n2_X11_way hC hp hk) (n_X12_way hw (Or.inr hk)) rfl (Obs.rf _)
  · exact pr_d (n_X11_way hC hv) (n_X12_way hw (Or.inl hv)) rfl (Obs.rf _)

theorem p_doubt (hC : CW σ α M) (v : Int32) : PRi mX11_doubt mX12_doubt rmX11_doubt rmX12_doubt [.int v] σ M := by
  have hw := hC.wp
  have hl := hC.wl
  have hs := hC.ws
  have hn := hC.wn
  have hk9 := hC.wk
  have h12 := hw.1.1
  have h6 := hl.1
  by_cases hv : ir v (nP σ)
  · obtain ⟨p, hp, rfl⟩ := ir_of hv (by omega)
    exact pr_e (c_X11_doubt hC hp) (c_X12_doubt hw hp hl hn) rfl (Obs.rf _)
  · exact pr_d (n_X11_doubt hC hv) (n_X12_doubt hw hv) rfl (Obs.rf _)

theorem p_whole (hC : CW σ α M) (v : Int32) : PRi mX11_whole mX12_whole rmX11_whole rmX12_whole [.int v] σ M := by
  have hw := hC.wp
  have hl := hC.wl
  have hs := hC.ws
  have hn := hC.wn
  have hk9 := hC.wk
  have h12 := hw.1.1
  have h6 := hl.1
  by_cases hv : ir v (nP σ)
  · obtain ⟨p, hp, rfl⟩ := ir_of hv (by omega)
    exact pr_e (c_X11_whole hC hp) (c_X12_whole hw hp hl hn) rfl (Obs.rf _)
  · exact pr_d (n_X11_whole hC hv) (n_X12_whole hw hv) rfl (Obs.rf _)

theorem p_proof (hC : CW σ α M) (v w u : Int32) : PRi mX11_proof mX12_proof rmX11_proof rmX12_proof [.int v, .int w, .int u] σ M := by
  have hw := hC.wp
  have hl := hC.wl
  have hs := hC.ws
  have hn := hC.wn
  have hk9 := hC.wk
  have h12 := hw.1.1
  have h6 := hl.1
  by_cases hv : ir v (nP σ)
  · obtain ⟨p, hp, rfl⟩ := ir_of hv (by omega)
    by_cases hok : irg w 0 15 ∧ irg u 0 3
    · obtain ⟨j, hj, rfl⟩ := irg_of (b := 15) (by decide) hok.1
      obtain ⟨k, hk, rfl⟩ := irg_of (b := 3) (by decide) hok.2
      exact pr_d (c_X11_proof hC hp hj hk) (c_X12_proof hw hp hj hk) rfl lay_obs
    · have hno : ¬ irg w 0 15 ∨ ¬ irg u 0 3 := by
        by_cases a : irg w 0 15
        · exact Or.inr (fun c => hok ⟨a, c⟩)
        · exact Or.inl a
      exact pr_d (n2_X11_proof hC hp hno) (n_X12_proof hw (Or.inr hno)) rfl (Obs.rf _)
  · exact pr_d (n_X11_proof hC hv) (n_X12_proof hw (Or.inl hv)) rfl (Obs.rf _)

theorem p_proves (hC : CW σ α M) (j u r k l i : Int32) : PRi mX11_proves mX12_proves rmX11_proves rmX12_proves [.int j, .int u, .int r, .int k, .int l, .int i] σ M := by
  have hw := hC.wp
  have hl := hC.wl
  have hs := hC.ws
  have hn := hC.wn
  have hk9 := hC.wk
  have h12 := hw.1.1
  have h6 := hl.1
  by_cases hk0 : irg k 0 3
  · obtain ⟨k, hk, rfl⟩ := irg_of (b := 3) (by decide) hk0
    by_cases hj : irg j 0 15
    · by_cases hok : irg u (-1) 99 ∧ irg l 0 2
      · by_cases hb : bar σ k l i 4 = 0
        · obtain ⟨i, n, rfl, e2, h0, hll, hle⟩ := bar_ok (n := 4) hs hk hb
          have h60 := (hs.ok hk h0).1
          have e3 : 4 = n := (nI_eq (by omega) (by omega)).mp e2
          subst e3
          exact pr_d (c_X11_proves hC hk hj hok.1 hok.2 h0 hll hle) (c_X12_proves hk hj hok.1 hok.2 hs h0 hll hle) rfl (Obs.rf _)
        · exact pr_d (n3_X11_proves hC hk hj hok.1 hok.2 hb) (n3_X12_proves hk hj hok.1 hok.2 hb) rfl (Obs.rf _)
      · have hno : ¬ irg u (-1) 99 ∨ ¬ irg l 0 2 := by
          by_cases a : irg u (-1) 99
          · exact Or.inr (fun c => hok ⟨a, c⟩)
          · exact Or.inl a
        exact pr_d (n2_X11_proves hC hk hj hno) (n2_X12_proves hk hj hno) rfl (Obs.rf _)
    · exact pr_d (n1_X11_proves hC hk hj) (n_X12_proves (Or.inr hj)) rfl (Obs.rf _)
  · exact pr_d (n0_X11_proves hC hk0) (n_X12_proves (Or.inl hk0)) rfl (Obs.rf _)

theorem p_hide (hC : CW σ α M) (v w : Int32) : PRi mX11_hide mX12_hide rmX11_hide rmX12_hide [.int v, .int w] σ M := by
  have hw := hC.wp
  have hl := hC.wl
  have hs := hC.ws
  have hn := hC.wn
  have hk9 := hC.wk
  have h12 := hw.1.1
  have h6 := hl.1
  by_cases hv : ir v (nP σ)
  · obtain ⟨p, hp, rfl⟩ := ir_of hv (by omega)
    by_cases hm : irg w 0 255
    · exact pr_d (c_X11_hide hC hp hm) (c_X12_hide hw hp hm) rfl (Obs.rf _)
    · exact pr_d (n2_X11_hide hC hp hm) (n2_X12_hide hw hp hm) rfl (Obs.rf _)
  · exact pr_d (n_X11_hide hC hv) (n_X12_hide hw hv) rfl (Obs.rf _)

theorem p_found (hC : CW σ α M) (v w : Int32) : PRi mX11_found mX12_found rmX11_found rmX12_found [.int v, .int w] σ M := by
  have hw := hC.wp
  have hl := hC.wl
  have hs := hC.ws
  have hn := hC.wn
  have hk9 := hC.wk
  have h12 := hw.1.1
  have h6 := hl.1
  by_cases hv : ir v (nP σ)
  · obtain ⟨p, hp, rfl⟩ := ir_of hv (by omega)
    exact pr_d (c_X11_found hC hp) (c_X12_found hw hp) rfl (Obs.rf _)
  · exact pr_d (n_X11_found hC hv) (n_X12_found hw hv) rfl (Obs.rf _)

theorem p_falsely (hC : CW σ α M) (v m w : Int32) : PRl mX11_falsely mX12_falsely rmX11_falsely rmX12_falsely [.int v, .int m, .int w] σ M := by
  have hw := hC.wp
  have hl := hC.wl
  have hs := hC.ws
  have hn := hC.wn
  have hk9 := hC.wk
  have h12 := hw.1.1
  have h6 := hl.1
  by_cases hv : ir v (nP σ)
  · obtain ⟨p, hp, rfl⟩ := ir_of hv (by omega)
    by_cases hok : irg m 0 255 ∧ irg w 0 1
    · exact pr_l (c_X11_falsely hC hp hok.1 hok.2) (c_X12_falsely hw hp hok.1 hok.2) rfl (Obs.rf _)
    · have hno : ¬ irg m 0 255 ∨ ¬ irg w 0 1 := by
        by_cases a : irg m 0 255
        · exact Or.inr (fun c => hok ⟨a, c⟩)
        · exact Or.inl a
      exact pr_l (n2_X11_falsely hC hp hno) (n_X12_falsely hw (Or.inr hno)) rfl (Obs.rf _)
  · exact pr_l (n_X11_falsely hC hv) (n_X12_falsely hw (Or.inl hv)) rfl (Obs.rf _)

theorem p_like (hC : CW σ α M) (v w : Int32) : PRi mX11_like mX12_like rmX11_like rmX12_like [.int v, .int w] σ M := by
  have hw := hC.wp
  have hl := hC.wl
  have hs := hC.ws
  have hn := hC.wn
  have hk9 := hC.wk
  have h12 := hw.1.1
  have h6 := hl.1
  by_cases hv : ir v (nP σ)
  · obtain ⟨p, hp, rfl⟩ := ir_of hv (by omega)
    by_cases hw2 : ir w (nP σ)
    · obtain ⟨q, hq, rfl⟩ := ir_of hw2 (by omega)
      exact pr_d (c_X11_like hC hp hq) (c_X12_like hw hp hq) rfl (Obs.rf _)
    · exact pr_d (n3_X11_like hC hp hw2) (n_X12_like hw (Or.inr hw2)) rfl (Obs.rf _)
  · by_cases hw2 : ir w (nP σ)
    · obtain ⟨q, hq, rfl⟩ := ir_of hw2 (by omega)
      exact pr_d (n2_X11_like hC hv hq) (n_X12_like hw (Or.inl hv)) rfl (Obs.rf _)
    · exact pr_d (n_X11_like hC hv hw2) (n_X12_like hw (Or.inl hv)) rfl (Obs.rf _)

theorem p_nearest (hC : CW σ α M) (v w : Int32) : PRi mX11_nearest mX12_nearest rmX11_nearest rmX12_nearest [.int v, .int w] σ M := by
  have hw := hC.wp
  have hl := hC.wl
  have hs := hC.ws
  have hn := hC.wn
  have hk9 := hC.wk
  have h12 := hw.1.1
  have h6 := hl.1
  by_cases hv : ir v (nP σ)
  · obtain ⟨p, hp, rfl⟩ := ir_of hv (by omega)
    by_cases hk0 : irg w 0 10
    · obtain ⟨k, hk, rfl⟩ := irg_of (b := 10) (by decide) hk0
      by_cases hsm : ∀ y, y < k + 1 → ∃ b, nbo σ p (nrs σ p y) (nP σ) = some b
      · obtain ⟨b, b1, b2, b3, b4, b5⟩ := nr_some hw hp (k := k) (fun y hy => hsm y (by omega))
        exact pr_d (c_X11_nearest hC hp (by omega) b2 b3 b4 b5) (c_X12_nearest hw hp (by omega) (fun y hy => hsm y (by omega))) (by rw [b1]; rfl) (Obs.rf _)
      · obtain ⟨y, y1, y2⟩ := n_all hsm
        have y3 : nbo σ p (nrs σ p y) (nP σ) = none := by
          cases z : nbo σ p (nrs σ p y) (nP σ) with
          | none => rfl
          | some b => exact absurd ⟨b, z⟩ y2
        exact pr_d (n3_X11_nearest hC hp (by omega) (nr_none hw hp k ⟨y, by omega, y3⟩)) (n2_X12_nearest hw hp (by omega) ⟨y, by omega, y3⟩) rfl (Obs.rf _)
    · exact pr_d (n2_X11_nearest hC hp hk0) (n_X12_nearest hw (Or.inr hk0)) rfl (Obs.rf _)
  · exact pr_d (n_X11_nearest hC hv) (n_X12_nearest hw (Or.inl hv)) rfl (Obs.rf _)

theorem p_coarse (hC : CW σ α M) (v w : Int32) : PRi mX11_coarse mX12_coarse rmX11_coarse rmX12_coarse [.int v, .int w] σ M := by
  have hw := hC.wp
  have hl := hC.wl
  have hs := hC.ws
  have hn := hC.wn
  have hk9 := hC.wk
  have h12 := hw.1.1
  have h6 := hl.1
  by_cases hv : ir v (nP σ)
  · obtain ⟨p, hp, rfl⟩ := ir_of hv (by omega)
    have q := c_X12_coarse (w := w) hw hp
    by_cases hwi : irg w 1 24
    · by_cases hno : σ 16 p < 0
      · rw [if_pos hwi, if_pos hno] at q
        exact pr_d (n3_X11_coarse hC hp hwi hno) q rfl (Obs.rf _)
      · rw [if_pos hwi, if_neg hno] at q
        rcases (hC.nc p hp hno).2.2 with z | z | z
        · exact pr_d (c0_X11_coarse hC hp hwi z) q rfl (Obs.rf _)
        · exact pr_d (c1_X11_coarse hC hp hwi z) q rfl (Obs.rf _)
        · exact pr_d (c2_X11_coarse hC hp hwi z) q rfl (Obs.rf _)
    · rw [if_neg hwi] at q
      exact pr_d (n2_X11_coarse hC hp hwi) q rfl (Obs.rf _)
  · exact pr_d (n_X11_coarse hC hv) (n_X12_coarse hw hv) rfl (Obs.rf _)

theorem p_look (hC : CW σ α M) (v h w : Int32) : PRi mX11_look mX12_look rmX11_look rmX12_look [.int v, .int h, .int w] σ M := by
  have hw := hC.wp
  have hl := hC.wl
  have hs := hC.ws
  have hn := hC.wn
  have hk9 := hC.wk
  have h12 := hw.1.1
  have h6 := hl.1
  by_cases hv : ir v (nP σ)
  · obtain ⟨p, hp, rfl⟩ := ir_of hv (by omega)
    have q := c_X12_look (h := h) (w := w) hw hp hk9.1
    by_cases hok : irg h 1 9 ∧ irg w 0 99
    · by_cases hf : nK σ = 9
      · rw [if_pos hok, if_pos hf, if_neg (fun z => z.2.2 hf)] at q
        exact pr_d (n3_X11_look hC hp hok hf) q rfl (Obs.rf _)
      · rw [if_pos hok, if_neg hf, if_pos ⟨hok.1, hok.2, hf⟩] at q
        exact pr_d (c_X11_look hC hp hok hf) q rfl (Obs.rf _)
    · rw [if_neg hok, if_neg (fun z => hok ⟨z.1, z.2.1⟩)] at q
      exact pr_d (n2_X11_look hC hp hok) q rfl (Obs.rf _)
  · exact pr_d (n_X11_look hC hv) (n_X12_look hw hv) rfl (Obs.rf _)

theorem p_best (hC : CW σ α M) (h w : Int32) : PRi mX11_best mX12_best rmX11_best rmX12_best [.int h, .int w] σ M := by
  have hw := hC.wp
  have hl := hC.wl
  have hs := hC.ws
  have hn := hC.wn
  have hk9 := hC.wk
  have h12 := hw.1.1
  have h6 := hl.1
  by_cases hok : irg h 0 99 ∧ irg w 0 2
  · exact pr_d (c_X11_best hC hok.1 hok.2) (c_X12_best hk9.1 hok.1 hok.2) rfl (Obs.rf _)
  · have hno : ¬ irg h 0 99 ∨ ¬ irg w 0 2 := by
      by_cases a : irg h 0 99
      · exact Or.inr (fun c => hok ⟨a, c⟩)
      · exact Or.inl a
    exact pr_d (n_X11_best hC hno) (n_X12_best hno) rfl (Obs.rf _)

theorem p_doubtful (hC : CW σ α M) : PRi mX11_doubtful mX12_doubtful rmX11_doubtful rmX12_doubtful [] σ M := by
  have hw := hC.wp
  have hl := hC.wl
  have hs := hC.ws
  have hn := hC.wn
  have hk9 := hC.wk
  have h12 := hw.1.1
  have h6 := hl.1
  exact pr_e (c_X11_doubtful hC) (c_X12_doubtful hw hl hn hk9) rfl (Obs.rf _)

theorem p_sheet (hC : CW σ α M) (k w u : Int32) : PRi mX11_sheet mX12_sheet rmX11_sheet rmX12_sheet [.int k, .int w, .int u] σ M := by
  have hw := hC.wp
  have hl := hC.wl
  have hs := hC.ws
  have hn := hC.wn
  have hk9 := hC.wk
  have h12 := hw.1.1
  have h6 := hl.1
  by_cases hk0 : irg k 0 3
  · obtain ⟨k, hk, rfl⟩ := irg_of (b := 3) (by decide) hk0
    by_cases hok : irg w 0 2 ∧ ¬ 60 < u
    · by_cases hu : u < 0
      · exact pr_d (n3_X11_sheet hC hk hok.1 hu) (n3_X12_sheet hk hok.1 hu) rfl (Obs.rf _)
      · obtain ⟨m, m1, rfl⟩ := nI_of2 (M := 60) (n := 60) (by decide) hu (Int32.not_lt.mp hok.2)
        exact pr_d (c_X11_sheet hC hk hok.1 m1) (c_X12_sheet hk hok.1 m1) rfl (Obs.rf _)
    · have hno : ¬ irg w 0 2 ∨ 60 < u := by
        by_cases a : irg w 0 2
        · exact Or.inr (Decidable.byContradiction (fun c => hok ⟨a, c⟩))
        · exact Or.inl a
      exact pr_d (n2_X11_sheet hC hk hno) (n2_X12_sheet hk hno) rfl (Obs.rf _)
  · exact pr_d (n_X11_sheet hC hk0) (n_X12_sheet hk0) rfl (Obs.rf _)

theorem p_lose (hC : CW σ α M) (k : Int32) : PRi mX11_lose mX12_lose rmX11_lose rmX12_lose [.int k] σ M := by
  have hw := hC.wp
  have hl := hC.wl
  have hs := hC.ws
  have hn := hC.wn
  have hk9 := hC.wk
  have h12 := hw.1.1
  have h6 := hl.1
  by_cases hk0 : irg k 0 3
  · obtain ⟨k, hk, rfl⟩ := irg_of (b := 3) (by decide) hk0
    have q := c_X12_lose (τ := σ) hk
    by_cases h0 : σ 28 k < 0
    · rw [if_pos h0] at q
      exact pr_d (n2_X11_lose hC hk h0) q rfl (Obs.rf _)
    · rw [if_neg h0] at q
      exact pr_d (c_X11_lose hC hk h0) q rfl (Obs.rf _)
  · exact pr_d (n_X11_lose hC hk0) (n_X12_lose hk0) rfl (Obs.rf _)

theorem p_put (hC : CW σ α M) (k i v : Int32) : PRi mX11_put mX12_put rmX11_put rmX12_put [.int k, .int i, .int v] σ M := by
  have hw := hC.wp
  have hl := hC.wl
  have hs := hC.ws
  have hn := hC.wn
  have hk9 := hC.wk
  have h12 := hw.1.1
  have h6 := hl.1
  by_cases hk0 : irg k 0 3
  · obtain ⟨k, hk, rfl⟩ := irg_of (b := 3) (by decide) hk0
    by_cases hc : 0 < ncl σ k i
    · exact pr_d (n2_X11_put hC hk hc) (n2_X12_put hs hk hc) rfl (Obs.rf _)
    · obtain ⟨h0, hi⟩ := ncl_ok hs hk hc
      have h60 := (hs.ok hk h0).1
      obtain ⟨j, hj, rfl⟩ := ir_of hi (by omega)
      exact pr_d (c_X11_put hC hk h0 hj) (c_X12_put hs hk h0 hj) rfl (Obs.rf _)
  · exact pr_d (n_X11_put hC hk0) (n_X12_put hk0) rfl (Obs.rf _)

theorem p_cell (hC : CW σ α M) (k i l : Int32) : PRl mX11_cell mX12_cell rmX11_cell rmX12_cell [.int k, .int i, .int l] σ M := by
  have hw := hC.wp
  have hl := hC.wl
  have hs := hC.ws
  have hn := hC.wn
  have hk9 := hC.wk
  have h12 := hw.1.1
  have h6 := hl.1
  by_cases hk0 : irg k 0 3
  · obtain ⟨k, hk, rfl⟩ := irg_of (b := 3) (by decide) hk0
    by_cases hln : irg l 0 2
    · by_cases hc : 0 < fCl σ k i l
      · exact pr_l (n3_X11_cell hC hk hln hc) (n2_X12_cell hs hk hln hc) rfl (Obs.rf _)
      · have hcc : ¬ (0 ≤ σ 28 k ∧ ¬ σ 29 k = l) := fun q => hc (by unfold fCl; rw [if_pos q]; decide)
        have hc2 : ¬ 0 < ncl σ k i := fun q => hc (by unfold fCl; rw [if_neg hcc]; exact q)
        obtain ⟨h0, hi⟩ := ncl_ok hs hk hc2
        have hll : σ 29 k = l := Decidable.byContradiction (fun q => hcc ⟨Int32.not_lt.mp h0, q⟩)
        have h60 := (hs.ok hk h0).1
        obtain ⟨j, hj, rfl⟩ := ir_of hi (by omega)
        exact pr_l (c_X11_cell hC hk hln h0 hll hj) (c_X12_cell hs hk hln h0 hll hj) rfl (Obs.rf _)
    · exact pr_l (n2_X11_cell hC hk hln) (n_X12_cell (Or.inr hln)) rfl (Obs.rf _)
  · exact pr_l (n_X11_cell hC hk0) (n_X12_cell (Or.inl hk0)) rfl (Obs.rf _)

theorem p_copy (hC : CW σ α M) (k i q j n : Int32) : PRi mX11_copy mX12_copy rmX11_copy rmX12_copy [.int k, .int i, .int q, .int j, .int n] σ M := by
  have hw := hC.wp
  have hl := hC.wl
  have hs := hC.ws
  have hn := hC.wn
  have hk9 := hC.wk
  have h12 := hw.1.1
  have h6 := hl.1
  by_cases hk0 : irg k 0 3
  · obtain ⟨k, hk, rfl⟩ := irg_of (b := 3) (by decide) hk0
    by_cases ho0 : irg q 0 3
    · obtain ⟨o, ho, rfl⟩ := irg_of (b := 3) (by decide) ho0
      by_cases h0 : σ 28 k < 0
      · have e : fCp σ k o i j n = 1 := by unfold fCp; rw [if_pos (Or.inl h0)]
        have z := n2_X12_copy (τ := σ) (i := i) (j := j) (n := n) hk ho (by rw [e]; decide)
        rw [e] at z
        exact pr_d (n2_X11_copy hC hk ho h0) z (by decide) (Obs.rf _)
      · by_cases h1 : σ 28 o < 0
        · have e : fCp σ k o i j n = 1 := by unfold fCp; rw [if_pos (Or.inr h1)]
          have z := n2_X12_copy (τ := σ) (i := i) (j := j) (n := n) hk ho (by rw [e]; decide)
          rw [e] at z
          exact pr_d (n3_X11_copy hC hk ho h0 h1) z (by decide) (Obs.rf _)
        · have e0 : ¬ (σ 28 k < 0 ∨ σ 28 o < 0) := fun z => z.elim h0 h1
          by_cases hll : σ 29 k = σ 29 o
          · by_cases hb : bey i n.toInt64 (σ 28 k) ∨ bey j n.toInt64 (σ 28 o)
            · have e : fCp σ k o i j n = 3 := by unfold fCp; rw [if_neg e0, if_neg (nn hll), if_pos hb]
              have z := n2_X12_copy (τ := σ) (i := i) (j := j) (n := n) hk ho (by rw [e]; decide)
              rw [e] at z
              exact pr_d (n5_X11_copy hC hk ho h0 h1 hll hb) z (by decide) (Obs.rf _)
            · have b1 : bar σ k (σ 29 k) i n.toInt64 = 0 := by
                unfold bar
                rw [if_neg (fun z => z.2 rfl), if_neg h0, if_neg (fun z => hb (Or.inl (Or.inr (Or.inl z)))), if_neg (fun z => hb (Or.inl z))]
              have b2 : bar σ o (σ 29 o) j n.toInt64 = 0 := by
                unfold bar
                rw [if_neg (fun z => z.2 rfl), if_neg h1, if_neg (fun z => hb (Or.inl (Or.inr (Or.inl z)))), if_neg (fun z => hb (Or.inr z))]
              obtain ⟨i, n, rfl, rfl, -, -, l1⟩ := bar_ok hs hk b1
              obtain ⟨j, n2, rfl, e2, -, -, l2⟩ := bar_ok hs ho b2
              have s1 := (hs.ok hk h0).1
              have s2 := (hs.ok ho h1).1
              have e3 : n = n2 := (nI_eq (by omega) (by omega)).mp e2
              subst e3
              exact pr_d (c_X11_copy hC hk ho h0 h1 hll l1 l2) (c_X12_copy hs hk ho h0 h1 hll l1 l2) rfl (Obs.rf _)
          · have e : fCp σ k o i j n = 2 := by unfold fCp; rw [if_neg e0, if_pos hll]
            have z := n2_X12_copy (τ := σ) (i := i) (j := j) (n := n) hk ho (by rw [e]; decide)
            rw [e] at z
            exact pr_d (n4_X11_copy hC hk ho h0 h1 hll) z (by decide) (Obs.rf _)
    · exact pr_d (n10_X11_copy hC hk ho0) (n_X12_copy (Or.inr ho0)) rfl (Obs.rf _)
  · by_cases ho0 : irg q 0 3
    · obtain ⟨o, ho, rfl⟩ := irg_of (b := 3) (by decide) ho0
      exact pr_d (n01_X11_copy hC hk0 ho) (n_X12_copy (Or.inl hk0)) rfl (Obs.rf _)
    · exact pr_d (n00_X11_copy hC hk0 ho0) (n_X12_copy (Or.inl hk0)) rfl (Obs.rf _)

theorem p_tell (hC : CW σ α M) (v : Int32) : PRi mX11_tell mX12_tell rmX11_tell rmX12_tell [.int v] σ M := by
  have hw := hC.wp
  have hl := hC.wl
  have hs := hC.ws
  have hn := hC.wn
  have hk9 := hC.wk
  have h12 := hw.1.1
  have h6 := hl.1
  by_cases hv : ir v (nP σ)
  · obtain ⟨p, hp, rfl⟩ := ir_of hv (by omega)
    by_cases hno : σ 16 p < 0
    · exact pr_d (n3_X11_tell hC hp hno) (n3_X12_tell hw hp hno) rfl (Obs.rf _)
    · rcases (hC.nc p hp hno).2.2 with z | z | z
      · exact pr_d (c0_X11_tell hC hp z) (c0_X12_tell hw hp z.1) rfl (Obs.rf _)
      · exact pr_d (c1_X11_tell hC hp z) (c1_X12_tell hw hp z.1) rfl (Obs.rf _)
      · exact pr_d (c2_X11_tell hC hp z) (c2_X12_tell hw hp z.1) rfl (Obs.rf _)
  · exact pr_d (n_X11_tell hC hv) (n_X12_tell hw hv) rfl (Obs.rf _)

theorem p_show (hC : CW σ α M) (v : Int32) : PRi mX11_show mX12_show rmX11_show rmX12_show [.int v] σ M := by
  have hw := hC.wp
  have hl := hC.wl
  have hs := hC.ws
  have hn := hC.wn
  have hk9 := hC.wk
  have h12 := hw.1.1
  have h6 := hl.1
  by_cases hv : ir v (nP σ)
  · obtain ⟨p, hp, rfl⟩ := ir_of hv (by omega)
    by_cases hno : σ 16 p < 0
    · exact pr_d (n3_X11_show hC hp hno) (n3_X12_show hw hp hno) rfl (Obs.rf _)
    · rcases (hC.nc p hp hno).2.2 with z | z | z
      · exact pr_d (c0_X11_show hC hp z) (c_X12_show hw hp hno (by rw [z.1]; decide)) rfl (Obs.rf _)
      · exact pr_d (c1_X11_show hC hp z) (c_X12_show hw hp hno (by rw [z.1]; decide)) rfl (Obs.rf _)
      · exact pr_d (c2_X11_show hC hp z) (c2_X12_show hw hp z.1) rfl (Obs.rf _)
  · exact pr_d (n_X11_show hC hv) (n_X12_show hw hv) rfl (Obs.rf _)

theorem p_as (hC : CW σ α M) (v w : Int32) : PRi mX11_as mX12_as rmX11_as rmX12_as [.int v, .int w] σ M := by
  have hw := hC.wp
  have hl := hC.wl
  have hs := hC.ws
  have hn := hC.wn
  have hk9 := hC.wk
  have h12 := hw.1.1
  have h6 := hl.1
  by_cases hv : ir v (nP σ)
  · obtain ⟨p, hp, rfl⟩ := ir_of hv (by omega)
    have q := c_X12_as (w := w) hw hp
    by_cases hwi : irg w 0 2
    · by_cases hno : σ 16 p < 0
      · exact pr_d (n3_X11_as hC hp hwi hno) q (by unfold sAs; rw [if_pos hwi, if_pos hno]) (by unfold tAs; rw [if_neg (fun z => z.2.1 hno)]; exact Obs.rf _)
      · have e1 : sAs σ p w = if σ 16 p < w then -12 else 1 := by unfold sAs; rw [if_pos hwi, if_neg hno]
        have e2 : tAs σ p w = if σ 16 p < w then tu σ 0 0 2 else tu σ 0 0 0 := by
          unfold tAs
          by_cases c : σ 16 p < w
          · rw [if_pos ⟨hwi, hno, c⟩, if_pos c]
          · rw [if_neg (fun z => c z.2.2), if_neg c]
        rw [e1, e2] at q
        rcases (hC.nc p hp hno).2.2 with z | z | z
        · rw [z.1] at q; exact pr_d (c0_X11_as hC hp hwi hno z.2.1) q rfl (Obs.rf _)
        · rw [z.1] at q; exact pr_d (c1_X11_as hC hp hwi hno z.2.1) q rfl (Obs.rf _)
        · rw [z.1] at q; exact pr_d (c2_X11_as hC hp hwi hno z.2.1) q rfl (Obs.rf _)
    · exact pr_d (n2_X11_as hC hp hwi) q (by unfold sAs; rw [if_neg hwi]) (by unfold tAs; rw [if_neg (fun z => hwi z.1)]; exact Obs.rf _)
  · exact pr_d (n_X11_as hC hv) (n_X12_as hw hv) rfl (Obs.rf _)

theorem p_trace (hC : CW σ α M) : PRi mX11_trace mX12_trace rmX11_trace rmX12_trace [] σ M := by
  have hw := hC.wp
  have hl := hC.wl
  have hs := hC.ws
  have hn := hC.wn
  have hk9 := hC.wk
  have h12 := hw.1.1
  have h6 := hl.1
  exact pr_d (c_X11_trace hC) c_X12_trace rfl (Obs.rf _)

theorem p_fault (hC : CW σ α M) : PRi mX11_fault mX12_fault rmX11_fault rmX12_fault [] σ M := by
  have hw := hC.wp
  have hl := hC.wl
  have hs := hC.ws
  have hn := hC.wn
  have hk9 := hC.wk
  have h12 := hw.1.1
  have h6 := hl.1
  exact pr_d (c_X11_fault hC) c_X12_fault rfl (Obs.rf _)

theorem p_many (hC : CW σ α M) (w : Int32) : PRi mX11_many mX12_many rmX11_many rmX12_many [.int w] σ M := by
  have hw := hC.wp
  have hl := hC.wl
  have hs := hC.ws
  have hn := hC.wn
  have hk9 := hC.wk
  have h12 := hw.1.1
  have h6 := hl.1
  exact pr_d (c_X11_many hC) (c_X12_many hw) rfl (Obs.rf _)

end

