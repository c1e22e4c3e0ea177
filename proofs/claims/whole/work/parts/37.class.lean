-- a run of the text, told without what does not matter
section CP
variable {tx nm nm2 s sp sp2 : Nat → Int32} {T p N W : Nat} {c : Int32}
theorem aPk_i : ∀ (n k : Nat) (u : Int32) (p : Nat) (nm nm2 : Nat → Int32), (aPk tx T n k u p nm).1 = (aPk tx T n k u p nm2).1 ∧ (aPk tx T n k u p nm).2.1 = (aPk tx T n k u p nm2).2.1 ∧ ((∀ i, i < k → nm i = nm2 i) → ¬ (aPk tx T n k u p nm).1 = 0 → ∀ i, i < k + n → (aPk tx T n k u p nm).2.2 i = (aPk tx T n k u p nm2).2.2 i)
  | 0, _, _, _, _, _ => ⟨rfl, rfl, fun h _ => h⟩
  | n + 1, k, u, p, nm, nm2 => by
    unfold aPk
    by_cases h0 : u = 0
    · rw [if_pos h0, if_pos h0]
      exact ⟨rfl, rfl, fun _ q => absurd h0 q⟩
    · rw [if_neg h0, if_neg h0]
      by_cases h1 : nI (aSg tx T p 44) = 0
      · rw [if_pos h1, if_pos h1, aPk_0, aPk_0]
        exact ⟨rfl, rfl, fun _ q => absurd rfl q⟩
      · rw [if_neg h1, if_neg h1]
        by_cases h2 : aNd (p + aSg tx T p 44) (aNm tx T 3 (p + aSg tx T p 44) 0) = 0
        · rw [if_pos h2, if_pos h2, aPk_0, aPk_0]
          exact ⟨rfl, rfl, fun _ q => absurd rfl q⟩
        · rw [if_neg h2, if_neg h2]
          have ih := aPk_i n (k + 1) 1 (aNm tx T 3 (p + aSg tx T p 44) 0).1 (upd nm k (aNm tx T 3 (p + aSg tx T p 44) 0).2) (upd nm2 k (aNm tx T 3 (p + aSg tx T p 44) 0).2)
          refine ⟨ih.1, ih.2.1, fun h q i hi => ih.2.2 (fun j hj => ?_) q i (by omega)⟩
          by_cases e : j = k
          · rw [e, upd_s, upd_s]
          · rw [upd_n e, upd_n e]
            exact h j (by omega)
theorem aPe_i {q q2 : Int32 × Nat × (Nat → Int32)} (h1 : q.1 = q2.1) (h2 : q.2.1 = q2.2.1) : (aPe tx T q).1 = (aPe tx T q2).1 ∧ (aPe tx T q).2.1 = (aPe tx T q2).2.1 ∧ (¬ (aPe tx T q).1 = 0 → ¬ q.1 = 0 ∧ (aPe tx T q).2.2 = q.2.2 ∧ (aPe tx T q2).2.2 = q2.2.2) := by
  unfold aPe
  rw [h1, h2]
  by_cases h0 : q2.1 = 0
  · rw [if_pos h0, if_pos h0]
    exact ⟨rfl, h2, fun w => absurd rfl w⟩
  · rw [if_neg h0, if_neg h0]
    by_cases h3 : nI (aSg tx T q2.2.1 59) = 0
    · rw [if_pos h3, if_pos h3]
      exact ⟨rfl, rfl, fun w => absurd rfl w⟩
    · rw [if_neg h3, if_neg h3]
      exact ⟨rfl, rfl, fun _ => ⟨h0, rfl, rfl⟩⟩
theorem aPm_i (m : Nat) (hm : m ≤ 4) : (aPm tx T p nm m).1 = (aPm tx T p nm2 m).1 ∧ (aPm tx T p nm m).2.1 = (aPm tx T p nm2 m).2.1 ∧ (¬ (aPm tx T p nm m).1 = 0 → ∀ i, i < m → (aPm tx T p nm m).2.2 i = (aPm tx T p nm2 m).2.2 i) := by
  unfold aPm
  by_cases h0 : nI m = 0
  · rw [if_pos h0, if_pos h0]
    have hm0 : m = 0 := by
      have e9 := congrArg Int32.toInt h0
      rw [nI_toInt (by omega)] at e9
      have e8 : (0 : Int32).toInt = 0 := by decide
      omega
    have a := aPk_i (tx := tx) (T := T) (m - 1) 1 1 p nm nm2
    have b := aPe_i (tx := tx) (T := T) a.1 a.2.1
    exact ⟨b.1, b.2.1, fun _ i hi => by omega⟩
  · rw [if_neg h0, if_neg h0]
    by_cases h1 : aNd p (aNm tx T 3 p 0) = 0
    · rw [if_pos h1, if_pos h1, aPk_0, aPk_0]
      have b := aPe_i (tx := tx) (T := T) (q := (0, (aNm tx T 3 p 0).1, upd nm 0 (aNm tx T 3 p 0).2)) (q2 := (0, (aNm tx T 3 p 0).1, upd nm2 0 (aNm tx T 3 p 0).2)) rfl rfl
      exact ⟨b.1, b.2.1, fun q => absurd rfl (b.2.2 q).1⟩
    · rw [if_neg h1, if_neg h1]
      have a := aPk_i (tx := tx) (T := T) (m - 1) 1 1 (aNm tx T 3 p 0).1 (upd nm 0 (aNm tx T 3 p 0).2) (upd nm2 0 (aNm tx T 3 p 0).2)
      have b := aPe_i (tx := tx) (T := T) a.1 a.2.1
      refine ⟨b.1, b.2.1, fun q i hi => ?_⟩
      obtain ⟨b1, b2, b3⟩ := b.2.2 q
      rw [b2, b3]
      refine a.2.2 (fun j hj => ?_) b1 i (by omega)
      obtain rfl : j = 0 := by omega
      rw [upd_s, upd_s]
theorem aNof_m (h : 0 ≤ aNof c) : ∃ m, m ≤ 4 ∧ aNof c = nI m ∧ aOc c := by
  rcases dNof_cases (c := c) with ⟨a, b⟩ | ⟨a, b, m, hm, d⟩
  · rw [b] at h
    exact absurd h (by decide)
  · exact ⟨m, hm, d, a⟩
theorem aPar_i : (aPar tx T p nm).1 = (aPar tx T p nm2).1 ∧ (aPar tx T p nm).2.1 = (aPar tx T p nm2).2.1 ∧ (¬ (aPar tx T p nm).1 = 0 → 0 ≤ aNof (aOrd tx T p) ∧ ∀ i, i < (aNof (aOrd tx T p)).toNatClampNeg → (aPar tx T p nm).2.2 i = (aPar tx T p nm2).2.2 i) := by
  unfold aPar
  by_cases h : 0 ≤ aNof (aOrd tx T p)
  · rw [if_pos h, if_pos h]
    obtain ⟨m, hm, e, -⟩ := aNof_m h
    rw [e, z_cl (by omega)]
    have a := aPm_i (tx := tx) (T := T) (p := p + 1) (nm := nm) (nm2 := nm2) m hm
    exact ⟨a.1, a.2.1, fun q => ⟨(nI_leI (a := 0) (b := m) (by omega) (by omega)).mpr (by omega), a.2.2 q⟩⟩
  · rw [if_neg h, if_neg h]
    exact ⟨rfl, rfl, fun q => absurd rfl q⟩
theorem aNight_i (hI : aIa s N W) : aNight s (aMix s sp (11 * N)) N = aNight s (aMix s sp2 (11 * N)) N := by
  rw [dSpr_eq hI (fun j hj => aMix_lo hj), dSpr_eq hI (fun j hj => aMix_lo hj)]
theorem aDo_i (hI : aI s) (hc : aOc c) (h : ∀ i, i < (aNof c).toNatClampNeg → nm i = nm2 i) : (aDo s sp nm c).1 = (aDo s sp2 nm2 c).1 ∧ (aDo s sp nm c).2.1 = (aDo s sp2 nm2 c).2.1 := by
  have hI' : aIa s (aNn s) (aWn s) := hI
  rcases hc with rfl | rfl | rfl | rfl | rfl | rfl | rfl
  · rw [dDo_98 hI', dDo_98 hI', h 0 (by decide)]
    exact ⟨rfl, rfl⟩
  · rw [dDo_99 hI', dDo_99 hI', h 0 (by decide)]
    exact ⟨rfl, rfl⟩
  · rw [dDo_108 hI', dDo_108 hI', h 0 (by decide), h 1 (by decide)]
    exact ⟨rfl, rfl⟩
  · rw [dDo_109 hI', dDo_109 hI', h 0 (by decide), h 1 (by decide)]
    exact ⟨rfl, rfl⟩
  · have a := dDo_110 (sp := sp) (nm := nm) hI'
    have b := dDo_110 (sp := sp2) (nm := nm2) hI'
    have e : aNgt s (aMix s sp (11 * aNn s)) (aNn s) = aNgt s (aMix s sp2 (11 * aNn s)) (aNn s) := by
      unfold aNgt
      rw [aNight_i (sp := sp) (sp2 := sp2) hI']
    exact ⟨a.1.trans ((congrArg Prod.fst e).trans b.1.symm), a.2.trans ((congrArg (fun q => q.2.2) e).trans b.2.symm)⟩
  · rw [dDo_112 hI', dDo_112 hI', h 0 (by decide), h 1 (by decide), h 2 (by decide), h 3 (by decide)]
    exact ⟨rfl, rfl⟩
  · rw [dDo_117 hI', dDo_117 hI']
    exact ⟨rfl, rfl⟩
theorem aPk_le : ∀ (n k : Nat) (u : Int32) (p : Nat) (nm : Nat → Int32), p ≤ T → p ≤ (aPk tx T n k u p nm).2.1 ∧ (aPk tx T n k u p nm).2.1 ≤ T
  | 0, _, _, _, _, h => ⟨Nat.le_refl _, h⟩
  | n + 1, k, u, p, nm, h => by
    unfold aPk
    have hs := xSg_le (tx := tx) (c := 44) h
    have hn := xNm_le (tx := tx) 3 (p + aSg tx T p 44) 0 hs.1
    by_cases h0 : u = 0
    · rw [if_pos h0]
      exact ⟨Nat.le_refl _, h⟩
    · rw [if_neg h0]
      by_cases h1 : nI (aSg tx T p 44) = 0
      · rw [if_pos h1, aPk_0]
        exact ⟨Nat.le_add_right _ _, hs.1⟩
      · rw [if_neg h1]
        by_cases h2 : aNd (p + aSg tx T p 44) (aNm tx T 3 (p + aSg tx T p 44) 0) = 0
        · rw [if_pos h2, aPk_0]
          exact ⟨by have := hn.2; show p ≤ (aNm tx T 3 (p + aSg tx T p 44) 0).1; omega, hn.1⟩
        · rw [if_neg h2]
          have := aPk_le n (k + 1) 1 _ (upd nm k (aNm tx T 3 (p + aSg tx T p 44) 0).2) hn.1
          exact ⟨by have := hn.2; omega, this.2⟩
theorem aPe_le {q : Int32 × Nat × (Nat → Int32)} (h : q.2.1 ≤ T) : q.2.1 ≤ (aPe tx T q).2.1 ∧ (aPe tx T q).2.1 ≤ T := by
  have hs := xSg_le (tx := tx) (c := 59) h
  unfold aPe
  split
  · exact ⟨Nat.le_refl _, h⟩
  · split
    · exact ⟨Nat.le_add_right _ _, hs.1⟩
    · exact ⟨Nat.le_add_right _ _, hs.1⟩
theorem aPm_le {m : Nat} (h : p ≤ T) : p ≤ (aPm tx T p nm m).2.1 ∧ (aPm tx T p nm m).2.1 ≤ T := by
  have hn := xNm_le (tx := tx) 3 p 0 h
  have key : ∀ n k u q (nm' : Nat → Int32), q ≤ T → p ≤ q → p ≤ (aPe tx T (aPk tx T n k u q nm')).2.1 ∧ (aPe tx T (aPk tx T n k u q nm')).2.1 ≤ T := by
    intro n k u q nm' h1 h2
    have a := aPk_le (tx := tx) n k u q nm' h1
    have b := aPe_le (tx := tx) a.2
    exact ⟨by omega, b.2⟩
  unfold aPm
  split
  · exact key _ _ _ _ _ h (Nat.le_refl _)
  · split
    · exact key _ _ _ _ _ hn.1 hn.2
    · exact key _ _ _ _ _ hn.1 hn.2
theorem aPar_le (h : p ≤ T) : p ≤ (aPar tx T p nm).2.1 ∧ (aPar tx T p nm).2.1 ≤ T ∧ (¬ (aPar tx T p nm).1 = 0 → p < (aPar tx T p nm).2.1) := by
  unfold aPar
  by_cases h0 : 0 ≤ aNof (aOrd tx T p)
  · have hpl : p < T := Nat.lt_of_not_le (fun q => by
      have e : aOrd tx T p = 0 := by
        unfold aOrd aAtC
        rw [if_pos q, if_pos rfl]
      rw [e] at h0
      exact absurd h0 (by decide))
    rw [if_pos h0]
    have := aPm_le (tx := tx) (nm := nm) (m := (aNof (aOrd tx T p)).toNatClampNeg) (show p + 1 ≤ T by omega)
    exact ⟨by omega, this.2, fun _ => by omega⟩
  · rw [if_neg h0]
    exact ⟨Nat.le_refl _, h, fun q => absurd rfl q⟩
abbrev aRt : Type := Int32 × Int32 × Int32 × Int32 × Nat × (Nat → Int32)
abbrev dP (tx : Nat → Int32) (T p : Nat) : Int32 × Nat × (Nat → Int32) := aPar tx T p (fun _ => 0)
abbrev dD (tx : Nat → Int32) (T p : Nat) (s : Nat → Int32) : Int32 × (Nat → Int32) × (Nat → Int32) := aDo s (fun _ => 0) (dP tx T p).2.2 (aOrd tx T p)
/-- a run: whether all is done, where, why and of what the fault is, how many orders are done, the array then -/
def dRun (tx : Nat → Int32) (T : Nat) : Nat → Nat → Nat → (Nat → Int32) → aRt
  | 0, _, c, s => (1, 0, 0, 0, c, s)
  | n + 1, p, c, s => if T ≤ p then (1, 0, 0, 0, c, s) else if (dP tx T p).1 = 0 then (0, nI p, 1, nI (dP tx T p).2.1 - nI p, c, s)
    else if (dD tx T p s).1 < 0 then (0, nI p, 2, (dD tx T p s).1, c, s) else dRun tx T n (dP tx T p).2.1 (c + 1) (dD tx T p s).2.1
theorem dRun_end : ∀ (n p c : Nat) (s : Nat → Int32), T ≤ p → dRun tx T n p c s = (1, 0, 0, 0, c, s)
  | 0, _, _, _, _ => rfl
  | n + 1, p, c, s, h => by
    unfold dRun
    rw [if_pos h]
theorem aPlay_0 : ∀ (f p : Nat) (o nm s sp : Nat → Int32), aPlay tx T f 0 p o nm s sp = (0, o, nm, s, sp)
  | 0, _, _, _, _, _ => rfl
  | f + 1, p, o, nm, s, sp => by
    unfold aPlay
    by_cases h : nI T ≤ nI p
    · rw [if_pos h]
    · rw [if_neg h, if_pos rfl]
/-- what the check's run tells is what the run tells -/
def dTl (R : aQt) (D : aRt) : Prop := R.1 = D.1 ∧ (D.1 = 1 → R.2.2.2.1 = D.2.2.2.2.2 ∧ R.2.1 12 = nI D.2.2.2.2.1) ∧ (D.1 = 0 → R.2.1 9 = D.2.1 ∧ R.2.1 10 = D.2.2.1 ∧ R.2.1 11 = D.2.2.2.1)
theorem aPlay_run (hT : T ≤ 60) : ∀ (f n p c : Nat) (o nm s sp : Nat → Int32), aK s → p ≤ T → T - p ≤ n → T - p < f → o 12 = nI c → dTl (aPlay tx T f 1 p o nm s sp) (dRun tx T n p c s)
  | 0, _, _, _, _, _, _, _, _, _, _, h, _ => absurd h (Nat.not_lt_zero _)
  | f + 1, n, p, c, o, nm, s, sp, hK, hp, h1, h2, h3 => by
    by_cases hq : T ≤ p
    · rw [dRun_end n p c s hq]
      unfold aPlay
      rw [if_pos ((nI_leI (by omega) (by omega)).mpr hq)]
      exact ⟨rfl, fun _ => ⟨rfl, h3⟩, fun q => absurd q (show ¬ (1 : Int32) = 0 by decide)⟩
    · obtain ⟨n, rfl⟩ : ∃ m, n = m + 1 := ⟨n - 1, by omega⟩
      have a := aPar_i (tx := tx) (T := T) (p := p) (nm := nm) (nm2 := fun _ => 0)
      have l := aPar_le (tx := tx) (nm := nm) hp
      unfold aPlay dRun
      rw [if_neg (fun q => hq ((nI_leI (by omega) (by omega)).mp q)), if_neg (show ¬ (1 : Int32) = 0 by decide), if_neg hq]
      by_cases hf : (aPar tx T p nm).1 = 0
      · rw [if_pos hf, if_pos (a.1.symm.trans hf), aPlay_0]
        refine ⟨rfl, fun q => absurd q (show ¬ (0 : Int32) = 1 by decide), fun _ => ⟨?_, ?_, ?_⟩⟩
        · show aSo2 (aSo1 tx T o nm p) 1 (nI (aPar tx T p nm).2.1 - nI p) 9 = nI p
          unfold aSo2 aSo1
          rw [upd_n (by decide), upd_n (by decide), upd_n (by decide), upd_n (by decide), upd_n (by decide), upd_s]
        · show aSo2 (aSo1 tx T o nm p) 1 (nI (aPar tx T p nm).2.1 - nI p) 10 = 1
          unfold aSo2
          rw [upd_n (by decide), upd_n (by decide), upd_s]
        · show aSo2 (aSo1 tx T o nm p) 1 (nI (aPar tx T p nm).2.1 - nI p) 11 = nI (dP tx T p).2.1 - nI p
          unfold aSo2
          rw [upd_n (by decide), upd_s, a.2.1]
      · rw [if_neg hf, if_neg (fun q => hf (a.1.trans q))]
        have hc := a.2.2 hf
        obtain ⟨m, hm, -, hoc⟩ := aNof_m hc.1
        have d := aDo_i (sp := sp) (sp2 := fun _ => 0) hK.1 hoc hc.2
        by_cases hd : (aDo s sp (aPar tx T p nm).2.2 (aOrd tx T p)).1 < 0
        · rw [if_pos hd, if_pos (show (dD tx T p s).1 < 0 by rw [← d.1]; exact hd), aPlay_0]
          refine ⟨rfl, fun q => absurd q (show ¬ (0 : Int32) = 1 by decide), fun _ => ⟨?_, ?_, ?_⟩⟩
          · show aSo2 (aSo1 tx T o nm p) 2 (aDo s sp (aPar tx T p nm).2.2 (aOrd tx T p)).1 9 = nI p
            unfold aSo2 aSo1
            rw [upd_n (by decide), upd_n (by decide), upd_n (by decide), upd_n (by decide), upd_n (by decide), upd_s]
          · show aSo2 (aSo1 tx T o nm p) 2 (aDo s sp (aPar tx T p nm).2.2 (aOrd tx T p)).1 10 = 2
            unfold aSo2
            rw [upd_n (by decide), upd_n (by decide), upd_s]
          · show aSo2 (aSo1 tx T o nm p) 2 (aDo s sp (aPar tx T p nm).2.2 (aOrd tx T p)).1 11 = (dD tx T p s).1
            unfold aSo2
            rw [upd_n (by decide), upd_s, d.1]
        · rw [if_neg hd, if_neg (show ¬ (dD tx T p s).1 < 0 by rw [← d.1]; exact hd)]
          have hk := aK_do (sp := sp) (nm := (aPar tx T p nm).2.2) (c := aOrd tx T p) hK
          have l3 := l.2.2 hf
          rw [← a.2.1, show (dD tx T p s).2.1 = _ from d.2.symm]
          refine aPlay_run hT f n _ (c + 1) _ _ _ _ hk l.2.1 (by omega) (by omega) ?_
          unfold aSo2 aSo1
          rw [upd_s, upd_n (by decide), upd_n (by decide), upd_n (by decide), upd_n (by decide), upd_n (by decide), h3]
          exact nI_1 c
theorem aPlR_run (hT : T ≤ 60) {o : Nat → Int32} (hK : aK s) : dTl (aPlR tx T o nm s sp) (dRun tx T 60 0 0 s) := by
  unfold aPlR
  refine aPlay_run hT 61 60 0 0 _ _ _ _ hK (by omega) (by omega) (by omega) ?_
  unfold aPl0
  rw [upd_s]
  rfl
theorem dRun_K (hT : T ≤ 60) : ∀ (n p c : Nat) (s : Nat → Int32), aK s → p ≤ T → c ≤ p → aK (dRun tx T n p c s).2.2.2.2.2 ∧ (dRun tx T n p c s).2.2.2.2.1 ≤ 60 ∧ ((dRun tx T n p c s).1 = 0 ∨ (dRun tx T n p c s).1 = 1)
  | 0, _, c, s, h, hp, hc => ⟨h, by show c ≤ 60; omega, Or.inr rfl⟩
  | n + 1, p, c, s, h, hp, hc => by
    unfold dRun
    split
    · exact ⟨h, by show c ≤ 60; omega, Or.inr rfl⟩
    · split
      · exact ⟨h, by show c ≤ 60; omega, Or.inl rfl⟩
      · split
        · exact ⟨h, by show c ≤ 60; omega, Or.inl rfl⟩
        · rename_i h1 h2 h3
          have l := aPar_le (tx := tx) (nm := fun _ => 0) hp
          have l3 := l.2.2 h2
          exact dRun_K hT n _ (c + 1) _ (aK_do h) l.2.1 (show c + 1 ≤ (aPar tx T p (fun _ => 0)).2.1 by omega)
end CP
theorem nI_m1 {n : Nat} (h : n < 1000) : ¬ nI n = -1 := by
  intro q
  have e9 := congrArg Int32.toInt q
  rw [nI_toInt (by omega)] at e9
  have e8 : (-1 : Int32).toInt = -1 := by decide
  omega
set_option maxRecDepth 4000 in
set_option maxHeartbeats 2000000 in
theorem x_perf_lp {g : zH} {B : Nat} (hB : aB B) {tx : Nat → Int32} {T : Nat} (hT60 : T ≤ 60) (htx : aTx tx T) {X : Nat × (Nat → Int32)} {Q : zQt} : ∀ (n i p c : Nat) (f nm s : Nat → Int32) (v : Nat → Nat → Int32) (q : Nat → Nat) (y3 : Value) {y4 : Value}, i + n = 60 → i ≤ p → p ≤ T → c ≤ i → f 2 = nI T → f 4 = nI p → f 5 = nI c → f 6 = -1 → AT v q s → aK s → (∀ r h', (r = none ∧ ∃ f' nm' v' q', h' = gX (gAu g B v' q') f' tx nm' ∧ f' 2 = nI T ∧ AP q' ∧ AZ v' ∧ ((dRun tx T n p c s).1 = 1 → f' 6 = -1 ∧ f' 5 = nI (dRun tx T n p c s).2.2.2.2.1 ∧ AT v' q' (dRun tx T n p c s).2.2.2.2.2) ∧ ((dRun tx T n p c s).1 = 0 → ¬ f' 6 = -1 ∧ f' 6 = (dRun tx T n p c s).2.1 ∧ f' 7 = (dRun tx T n p c s).2.2.1 ∧ f' 8 = (dRun tx T n p c s).2.2.2.1)) → Q r 222 h') → zJ X mX3_performOn 222 17 [.ref 142, .ref B, .int (nI i), y3, y4] [] 222 (gX (gAu g B v q) f tx nm) Q := by
  intro n
  induction n with
  | zero =>
    intro i p c f nm s v q y3 y4 hi hip hpT hci hT hp h5 h6 hT1 hK hQ
    obtain rfl : i = 60 := by omega
    refine j_iload_n dX3_performOn_17 rfl ?_
    refine j_bipush (v := 60) dX3_performOn_18 (by decide) ?_
    refine j_icmp_ge dX3_performOn_20 (tgt := 110) rfl (fun _ => ?_) (fun c1 => absurd (show (60 : Int32) ≤ nI 60 by decide) c1)
    refine j_vret dX3_performOn_110 rfl ?_
    have hq : T ≤ p := by omega
    obtain ⟨N, W, K, g1, g2, g3, hA⟩ := hT1
    exact hQ _ _ ⟨rfl, _, _, _, _, rfl, hT, hA.2.1, hA.2.2.1, fun _ => ⟨h6, h5, ⟨N, W, K, g1, g2, g3, hA⟩⟩, fun q => absurd q (show ¬ (1 : Int32) = 0 by decide)⟩
  | succ n ih =>
    intro i p c f nm s v q y3 y4 hi hip hpT hci hT hp h5 h6 hT1 hK hQ
    refine j_iload_n dX3_performOn_17 rfl ?_
    refine j_bipush (v := 60) dX3_performOn_18 (by decide) ?_
    refine j_icmp_ge dX3_performOn_20 (tgt := 110) rfl (fun c1 => absurd c1 (show ¬ (60 : Int32) ≤ nI i from nI_ge (a := i) (b := 60) (by omega) (by omega))) (fun _ => ?_)
    refine j_aload_n dX3_performOn_23 rfl ?_
    refine j_get (v := .int (nI p)) dX3_performOn_24 fX3_32 rfl (by decide) ((x_f (by decide)).trans (congrArg Value.int (hp))) ?_
    refine j_aload_n dX3_performOn_27 rfl ?_
    refine j_get (v := .int (nI T)) dX3_performOn_28 fX3_28 rfl (by decide) ((x_f (by decide)).trans (congrArg Value.int (hT))) ?_
    refine j_icmp_ge dX3_performOn_31 (tgt := 110) rfl (fun c2 => ?_) (fun c2 => ?_)
    · refine j_vret dX3_performOn_110 rfl ?_
      have hq : T ≤ p := (nI_leI (by omega) (by omega)).mp c2
      rw [dRun_end _ p c s hq] at hQ
      obtain ⟨N, W, K, g1, g2, g3, hA⟩ := hT1
      exact hQ _ _ ⟨rfl, _, _, _, _, rfl, hT, hA.2.1, hA.2.2.1, fun _ => ⟨h6, h5, ⟨N, W, K, g1, g2, g3, hA⟩⟩, fun q => absurd q (show ¬ (1 : Int32) = 0 by decide)⟩
    · refine j_aload_n dX3_performOn_34 rfl ?_
      refine k_callV0i dX3_performOn_35 vX3_performOn_38 (x_has) rfl (by decide)  (Nat.le_of_ble_eq_true rfl) ⟨rfl, rfl⟩ rfl ?_
      rintro _ _ ⟨⟨⟩, rfl⟩
      rw [if_pos h6]
      refine j_if_ne dX3_performOn_38 (tgt := 110) rfl (fun c3 => absurd c3 (fun h => h rfl)) (fun _ => ?_)
      have hq : ¬ T ≤ p := fun q => ‹¬ nI T ≤ nI p› ((nI_leI (by omega) (by omega)).mpr q)
      have a := aPar_i (tx := tx) (T := T) (p := p) (nm := nm) (nm2 := fun _ => 0)
      have l := aPar_le (tx := tx) (nm := nm) hpT
      obtain ⟨K, hK1, hA⟩ := AT_of hT1 hK.1
      refine j_aload_n dX3_performOn_41 rfl ?_
      refine j_get (v := .int (nI p)) dX3_performOn_42 fX3_32 rfl (by decide) ((x_f (by decide)).trans (congrArg Value.int (hp))) ?_
      refine j_istore_n dX3_performOn_45 (by decide) ?_
      refine j_aload_n dX3_performOn_46 rfl ?_
      refine k_callV0i dX3_performOn_47 vX3_performOn_42 (x_ord hT hT60 hp hpT htx) rfl (by decide)  (Nat.le_of_ble_eq_true rfl) ⟨rfl, rfl⟩ rfl ?_
      rintro _ _ ⟨⟨⟩, rfl⟩
      refine j_if_ne dX3_performOn_50 (tgt := 66) rfl (fun c4 => ?_) (fun c4 => ?_)
      · have hc := a.2.2 ‹¬ (aPar tx T p nm).1 = 0›
        obtain ⟨m, hm, -, hoc⟩ := aNof_m hc.1
        have hno := (dNx_ord (tx := tx) (T := T) (p := p)).1 hc.1
        have d := aDo_i (sp := fun _ => 0) (sp2 := fun _ => 0) hK.1 hoc hc.2
        refine j_aload_n dX3_performOn_66 rfl ?_
        refine j_aload_n dX3_performOn_67 rfl ?_
        refine j_get (v := .int (aOrd tx T p)) dX3_performOn_68 fX3_49 rfl (by decide) ((x_f (by decide)).trans (congrArg Value.int ((upd_n (by decide)).trans (upd_s.trans hno.1)))) ?_
        refine j_aload_n dX3_performOn_71 rfl ?_
        refine j_get (v := .ref 144) dX3_performOn_72 fX3_15 rfl (by decide) x_p1 ?_
        rw [x_au hB]
        refine k_callV2i dX3_performOn_75 vX3_performOn_53 (c_do (nm := (aPar tx T p nm).2.2) (sp := fun _ => 0) hB hA hK.1 hK1 hK.2.1 hK.2.2.1 rfl hoc) (aB_S0 hB) (aB_l0 hB) rfl rfl (Nat.le_of_ble_eq_true rfl) ⟨rfl, rfl⟩ rfl ?_
        rintro _ _ ⟨v1, q1, ⟨⟩, rfl, hT2⟩
        rw [← x_au hB]
        refine j_istore dX3_performOn_78 (by decide) ?_
        refine j_iload dX3_performOn_80 rfl ?_
        refine j_if_ge dX3_performOn_82 (tgt := 94) rfl (fun c5 => ?_) (fun c5 => ?_)
        · refine j_aload_n dX3_performOn_94 rfl ?_
          refine j_dup dX3_performOn_95 rfl ?_
          refine j_get (v := .int (nI c)) dX3_performOn_96 fX3_35 rfl (by decide) ((x_f (by decide)).trans (congrArg Value.int ((upd_n (by decide)).trans ((upd_n (by decide)).trans h5)))) ?_
          refine j_iconst (v := 1) dX3_performOn_99 (by decide) ?_
          refine j_iadd dX3_performOn_100 ?_
          refine j_put dX3_performOn_101 fX3_35 rfl (by decide) (rfl) ?_
          rw [x_put (k := 5) (by decide)]
          refine j_iinc (v := nI (i + 1)) dX3_performOn_104 rfl z_inc (by decide) ?_
          refine j_goto dX3_performOn_107 (tgt := 17) rfl ?_
          have e : dRun tx T (n + 1) p c s = dRun tx T n (aPar tx T p nm).2.1 (c + 1) (aDo s (fun _ => 0) (aPar tx T p nm).2.2 (aOrd tx T p)).2.1 := by
            rw [dRun, if_neg hq, if_neg (fun q => c4 (a.1.trans q)), if_neg (show ¬ (dD tx T p s).1 < 0 by rw [← d.1]; exact Int32.not_lt.mpr c5), ← a.2.1, d.2]
          rw [e] at hQ
          have l3 := l.2.2 c4
          refine ih (i + 1) _ (c + 1) _ _ _ _ _ _ (by omega) (by omega) l.2.1 (by omega) ?_ ?_ ?_ ?_ hT2 (aK_do hK) hQ
          · exact (upd_n (by decide)).trans ((upd_n (by decide)).trans ((upd_n (by decide)).trans hT))
          · exact (upd_n (by decide)).trans upd_s
          · exact upd_s.trans (nI_1 c)
          · exact (upd_n (by decide)).trans ((upd_n (by decide)).trans ((upd_n (by decide)).trans h6))
        · refine j_aload_n dX3_performOn_85 rfl ?_
          refine j_iload_n dX3_performOn_86 rfl ?_
          refine j_iconst (v := 2) dX3_performOn_87 (by decide) ?_
          refine j_iload dX3_performOn_88 rfl ?_
          refine k_callV3v dX3_performOn_90 vX3_performOn_45 (x_note) rfl (by decide) rfl rfl rfl (Nat.le_of_ble_eq_true rfl) ⟨rfl, rfl⟩ rfl ?_
          rintro _ ⟨-, rfl⟩
          refine j_vret dX3_performOn_93 rfl ?_
          have e : dRun tx T (n + 1) p c s = (0, nI p, 2, (aDo s (fun _ => 0) (aPar tx T p nm).2.2 (aOrd tx T p)).1, c, s) := by
            unfold dRun
            rw [if_neg hq, if_neg (fun q => c4 (a.1.trans q)), if_pos (show (dD tx T p s).1 < 0 by rw [← d.1]; exact Int32.not_le.mp c5), d.1]
          rw [e] at hQ
          obtain ⟨N1, W1, K1, -, -, -, hA1⟩ := hT2
          refine hQ _ _ ⟨rfl, _, _, _, _, rfl, ?_, hA1.2.1, hA1.2.2.1, fun q => absurd q (show ¬ (0 : Int32) = 1 by decide), fun _ => ⟨?_, ?_, ?_, ?_⟩⟩
          · exact (upd_n (by decide)).trans ((upd_n (by decide)).trans ((upd_n (by decide)).trans ((upd_n (by decide)).trans ((upd_n (by decide)).trans hT))))
          · rw [upd_n (by decide), upd_n (by decide), upd_s]
            exact nI_m1 (by omega)
          · rw [upd_n (by decide), upd_n (by decide), upd_s]
          · rw [upd_n (by decide), upd_s]
          · exact upd_s
      · refine j_aload_n dX3_performOn_53 rfl ?_
        refine j_iload_n dX3_performOn_54 rfl ?_
        refine j_iconst (v := 1) dX3_performOn_55 (by decide) ?_
        refine j_aload_n dX3_performOn_56 rfl ?_
        refine j_get (v := .int (nI (aPar tx T p nm).2.1)) dX3_performOn_57 fX3_32 rfl (by decide) ((x_f (by decide)).trans (congrArg Value.int (upd_s))) ?_
        refine j_iload_n dX3_performOn_60 rfl ?_
        refine j_isub dX3_performOn_61 ?_
        refine k_callV3v dX3_performOn_62 vX3_performOn_45 (x_note) rfl (by decide) rfl rfl rfl (Nat.le_of_ble_eq_true rfl) ⟨rfl, rfl⟩ rfl ?_
        rintro _ ⟨-, rfl⟩
        refine j_vret dX3_performOn_65 rfl ?_
        have e : dRun tx T (n + 1) p c s = (0, nI p, 1, nI (aPar tx T p nm).2.1 - nI p, c, s) := by
          unfold dRun
          rw [if_neg hq, if_pos (a.1.symm.trans c4), a.2.1]
        rw [e] at hQ
        refine hQ _ _ ⟨rfl, _, _, _, _, rfl, ?_, hA.2.1, hA.2.2.1, fun q => absurd q (show ¬ (0 : Int32) = 1 by decide), fun _ => ⟨?_, ?_, ?_, ?_⟩⟩
        · exact (upd_n (by decide)).trans ((upd_n (by decide)).trans ((upd_n (by decide)).trans ((upd_n (by decide)).trans ((upd_n (by decide)).trans hT))))
        · rw [upd_n (by decide), upd_n (by decide), upd_s]
          exact nI_m1 (by omega)
        · rw [upd_n (by decide), upd_n (by decide), upd_s]
        · rw [upd_n (by decide), upd_s]
        · exact upd_s
set_option maxRecDepth 4000 in
set_option maxHeartbeats 2000000 in
theorem x_perf {g : zH} {B : Nat} (hB : aB B) {f tx nm s : Nat → Int32} {v : Nat → Nat → Int32} {q : Nat → Nat} {T : Nat} (hT : f 2 = nI T) (hT60 : T ≤ 60) (htx : aTx tx T) (hT1 : AT v q s) (hK : aK s) : zCT mX3_performOn [.ref 142, .ref B] 222 (gX (gAu g B v q) f tx nm) 222 (fun r h' => r = none ∧ ∃ f' nm' v' q', h' = gX (gAu g B v' q') f' tx nm' ∧ f' 2 = nI T ∧ AP q' ∧ AZ v' ∧ ((dRun tx T 60 0 0 s).1 = 1 → f' 6 = -1 ∧ f' 5 = nI (dRun tx T 60 0 0 s).2.2.2.2.1 ∧ AT v' q' (dRun tx T 60 0 0 s).2.2.2.2.2) ∧ ((dRun tx T 60 0 0 s).1 = 0 → ¬ f' 6 = -1 ∧ f' 6 = (dRun tx T 60 0 0 s).2.1 ∧ f' 7 = (dRun tx T 60 0 0 s).2.2.1 ∧ f' 8 = (dRun tx T 60 0 0 s).2.2.2.1)) := by
  intro X Q hQ
  show zJ X mX3_performOn 222 0 [.ref 142, .ref B, .null, .null, .null] [] 222 (gX (gAu g B v q) f tx nm) Q
  refine j_aload_n dX3_performOn_0 rfl ?_
  refine j_iconst (v := 0) dX3_performOn_1 (by decide) ?_
  refine j_put dX3_performOn_2 fX3_32 rfl (by decide) (rfl) ?_
  rw [x_put (k := 4) (by decide)]
  refine j_aload_n dX3_performOn_5 rfl ?_
  refine j_iconst (v := 0) dX3_performOn_6 (by decide) ?_
  refine j_put dX3_performOn_7 fX3_35 rfl (by decide) (rfl) ?_
  rw [x_put (k := 5) (by decide)]
  refine j_aload_n dX3_performOn_10 rfl ?_
  refine j_iconst (v := (-1)) dX3_performOn_11 (by decide) ?_
  refine j_put dX3_performOn_12 fX3_19 rfl (by decide) (rfl) ?_
  rw [x_put (k := 6) (by decide)]
  refine j_iconst (v := 0) dX3_performOn_15 (by decide) ?_
  refine j_istore_n dX3_performOn_16 (by decide) ?_
  refine x_perf_lp hB hT60 htx 60 0 0 0 _ _ s v q _ (by omega) (by omega) (by omega) (by omega) ?_ ?_ ?_ ?_ hT1 hK hQ
  · exact (upd_n (by decide)).trans ((upd_n (by decide)).trans ((upd_n (by decide)).trans hT))
  · exact (upd_n (by decide)).trans ((upd_n (by decide)).trans upd_s)
  · exact (upd_n (by decide)).trans upd_s
  · exact upd_s
