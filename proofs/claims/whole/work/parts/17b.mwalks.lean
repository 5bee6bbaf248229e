/-! ===== the model's search ===== -/
def GRm (n e : Nat) (E : Nat → Nat → Prop) (s : Nat → Nat) (σ : SS) : Prop := e < n ∧ n ≤ 12 ∧ s e = 0 ∧ (∀ j, j < n → s j ≤ 60) ∧ (∀ i j, i < n → j < n → (E i j ↔ (¬ σ 11 (12 * i + j) = 0) ∧ (j = e ∨ rlM σ j = true))) ∧ ∀ j, j < n → j ≠ e → σ 4 j + (100 - σ 5 j) / 10 = nI (s j)
/-- all but costs and left are as they were -/
def agr (σ' σ : SS) : Prop := ∀ k, k ≠ 24 → k ≠ 25 → σ' k = σ k
def rm (n : Nat) (σ : SS) (f : Nat → Nat) (H : Nat) : Prop := ∀ k, k < n → ∃ c h, σ 24 k = nI c ∧ σ 25 k = nI h ∧ f k = 10000 * c + h ∧ ((c < 99999 ∧ h ≤ H) ∨ (c = 99999 ∧ h = 0))
theorem rlM_agr {σ' σ : SS} (h : agr σ' σ) (j : Nat) : rlM σ' j = rlM σ j := by
  unfold rlM
  rw [h 6 (by decide) (by decide), h 3 (by decide) (by decide), h 4 (by decide) (by decide)]
theorem spS_agr {σ' σ : SS} (h : agr σ' σ) (j e : Nat) : spS σ' j e = spS σ j e := spS_cong fun k hk => h k (by omega) (by omega)
section ModelSearch
variable {n e : Nat} {E : Nat → Nat → Prop} {s f : Nat → Nat} {σ σ0 : SS} {H : Nat}
theorem sp_yes (g : GRm n e E s σ0) (ha : agr σ σ0) {i j : Nat} (hi : i < n) (hj : j < n) (hE : E i j) : spS σ j e = nI (s j) := by
  obtain ⟨g1, g2, g3, g4, g5, g6⟩ := g
  rw [spS_agr ha]
  unfold spS
  by_cases c : j = e
  · subst c; rw [if_pos rfl, g3]; rfl
  · rw [if_neg c, if_pos (((g5 i j hi hj).mp hE).2.resolve_left c), g6 j hj c]
theorem isL_i (g : GRm n e E s σ0) (ha : agr σ σ0) (hr : rm n σ f H) (hH : H < 10000) {i j : Nat} (hi : i < n) (hj : j < n) : isL σ e i j ↔ E i j ∧ f j < 999990000 := by
  obtain ⟨c, h, e1, e2, e3, e4⟩ := hr j hj
  have hc : σ 24 j < 99999 ↔ f j < 999990000 := by
    rw [e1]
    show nI c < nI 99999 ↔ _
    rw [nI_ltI (by omega) (by decide), e3]
    show c < 99999 ↔ 10000 * c + h < 999990000
    omega
  have h11 := ha 11 (by decide) (by decide)
  constructor
  · rintro ⟨a, b, d⟩
    refine ⟨(g.2.2.2.2.1 i j hi hj).mpr ⟨by rw [← h11]; exact a, ?_⟩, hc.mp b⟩
    by_cases z : j = e
    · exact Or.inl z
    · refine Or.inr ?_
      rw [spS_agr ha] at d
      unfold spS at d
      rw [if_neg z] at d
      by_cases y : rlM σ0 j = true
      · exact y
      · rw [if_neg y] at d
        exact absurd d (by decide)
  · rintro ⟨a, b⟩
    refine ⟨by rw [h11]; exact ((g.2.2.2.2.1 i j hi hj).mp a).1, hc.mpr b, ?_⟩
    rw [sp_yes g ha hi hj a]
    have := g.2.2.2.1 j hj
    exact nI_lt (b := 99999) (by omega) (by decide)
theorem rx_spec (g : GRm n e E s σ0) (ha : agr σ σ0) (hr : rm n σ f H) (hH : H + 1 < 10000) (h0 : f e = 0) (hS : Sup n e 10000 999990000 E s f) {k j : Nat} (hk : k < n) (hke : k ≠ e) (hj : j < n) :
    ∃ f', agr (rxS σ e k j) σ0 ∧ rm n (rxS σ e k j) f' (H + 1) ∧ f' e = 0 ∧ Sup n e 10000 999990000 E s f' ∧ (∀ i, f' i ≤ f i) ∧ (E k j → f j < 999990000 → f' k ≤ 10000 * s j + 1 + f j) ∧ ∀ i, i ≠ k → f' i = f i := by
  obtain ⟨ck, hk', k1, k2, k3, k4⟩ := hr k hk
  obtain ⟨cj, hj', j1, j2, j3, j4⟩ := hr j hj
  by_cases c : isL σ e k j
  · have hEI := (isL_i g ha hr (by omega) hk hj).mp c
    have hsp := sp_yes g ha hk hj hEI.1
    have hsj := g.2.2.2.1 j hj
    have hIM : f j < 999990000 := hEI.2
    have hcj : cj < 99999 ∧ hj' ≤ H := by omega
    have hB : isB σ e k j ↔ 10000 * s j + 1 + f j < f k := by
      show σ 24 j + spS σ j e < σ 24 k ∨ (σ 24 j + spS σ j e = σ 24 k ∧ σ 25 j + 1 < σ 25 k) ↔ _
      rw [hsp, j1, k1, j2, k2, nI_add, nI_1, nI_ltI (by omega) (by omega), nI_eq (by omega) (by omega), nI_ltI (by omega) (by omega)]
      omega
    by_cases d : isB σ e k j
    · have hlt := hB.mp d
      rw [rxS_t c d]
      refine ⟨upN f k (10000 * s j + 1 + f j), fun q q1 q2 => ?_, fun i hi => ?_, ?_, hS.relax hk hke hj hEI.1 hEI.2 rfl hlt, fun i => ?_, fun _ _ => by rw [upN_s]; exact Nat.le_refl _, fun i hi => upN_n hi⟩
      · rw [stp_k q1, stp_k q2]; exact ha q q1 q2
      · by_cases z : i = k
        · subst z
          refine ⟨cj + s j, hj' + 1, ?_, ?_, ?_, Or.inl ?_⟩
          · rw [stp_s, hsp, j1, nI_add]
          · rw [stp_k (by decide), stp_s, j2, nI_1]
          · rw [upN_s, j3]; omega
          · omega
        · obtain ⟨c1, h1, a1, a2, a3, a4⟩ := hr i hi
          refine ⟨c1, h1, ?_, ?_, ?_, ?_⟩
          · rw [stp_i z, stp_i z]; exact a1
          · rw [stp_i z, stp_i z]; exact a2
          · rw [upN_n z]; exact a3
          · omega
      · rw [upN_n (Ne.symm hke)]; exact h0
      · by_cases z : i = k
        · subst z; rw [upN_s]; omega
        · rw [upN_n z]; exact Nat.le_refl _
    · rw [rxS_b d]
      refine ⟨f, ha, fun i hi => ?_, h0, hS, fun _ => Nat.le_refl _, fun _ _ => ?_, fun _ _ => rfl⟩
      · obtain ⟨c1, h1, a1, a2, a3, a4⟩ := hr i hi
        exact ⟨c1, h1, a1, a2, a3, by omega⟩
      · have := mt hB.mpr d; omega
  · rw [rxS_l c]
    refine ⟨f, ha, fun i hi => ?_, h0, hS, fun _ => Nat.le_refl _, fun a b => absurd ((isL_i g ha hr (by omega) hk hj).mpr ⟨a, b⟩) c, fun _ _ => rfl⟩
    obtain ⟨c1, h1, a1, a2, a3, a4⟩ := hr i hi
    exact ⟨c1, h1, a1, a2, a3, by omega⟩
theorem rw_spec (g : GRm n e E s σ0) (ha : agr σ σ0) (hr : rm n σ f H) (hH : H + 12 < 10000) (h0 : f e = 0) (hS : Sup n e 10000 999990000 E s f) {k : Nat} (hk : k < n) (hke : k ≠ e) : ∀ r, r ≤ n →
    ∃ f', agr (rwS σ e k r) σ0 ∧ rm n (rwS σ e k r) f' (H + r) ∧ f' e = 0 ∧ Sup n e 10000 999990000 E s f' ∧ (∀ i, f' i ≤ f i) ∧ (∀ j, j < r → E k j → f j < 999990000 → f' k ≤ 10000 * s j + 1 + f j) ∧ ∀ i, i ≠ k → f' i = f i
  | 0, _ => ⟨f, ha, hr, h0, hS, fun _ => Nat.le_refl _, fun j hj => by omega, fun _ _ => rfl⟩
  | r + 1, hr1 => by
    obtain ⟨f1, a1, a2, a3, a4, a5, a6, a7⟩ := rw_spec g ha hr hH h0 hS hk hke r (by omega)
    have hn12 := g.2.1
    obtain ⟨f2, b1, b2, b3, b4, b5, b6, b7⟩ := rx_spec g a1 a2 (by omega) a3 a4 hk hke (show r < n by omega)
    refine ⟨f2, b1, b2, b3, b4, fun i => Nat.le_trans (b5 i) (a5 i), fun j hj hE hI => ?_, fun i hi => (b7 i hi).trans (a7 i hi)⟩
    by_cases z : j = r
    · subst z
      have h1 := a5 j
      have := b6 hE (by omega)
      omega
    · have := a6 j (by omega) hE hI
      have := b5 k
      omega
theorem rdm_spec (g : GRm n e E s σ0) (ha : agr σ σ0) (hr : rm n σ f H) (hH : H + 160 < 10000) (h0 : f e = 0) (hS : Sup n e 10000 999990000 E s f) : ∀ k, k ≤ n →
    ∃ f', agr (rdS σ e n k) σ0 ∧ rm n (rdS σ e n k) f' (H + 12 * k) ∧ f' e = 0 ∧ Sup n e 10000 999990000 E s f' ∧ (∀ i, f' i ≤ f i) ∧ (∀ i, i < k → i ≠ e → ∀ j, j < n → E i j → f j < 999990000 → f' i ≤ 10000 * s j + 1 + f j)
  | 0, _ => ⟨f, ha, hr, h0, hS, fun _ => Nat.le_refl _, fun i hi => by omega⟩
  | k + 1, hk => by
    obtain ⟨f1, a1, a2, a3, a4, a5, a6⟩ := rdm_spec g ha hr hH h0 hS k (by omega)
    have hn12 := g.2.1
    have hun : rdS σ e n (k + 1) = if k = e then rdS σ e n k else rwS (rdS σ e n k) e k n := rfl
    by_cases c : k = e
    · rw [hun, if_pos c]
      refine ⟨f1, a1, fun i hi => ?_, a3, a4, a5, fun i hi hie => a6 i (by omega) hie⟩
      obtain ⟨c1, h1, q1, q2, q3, q4⟩ := a2 i hi
      exact ⟨c1, h1, q1, q2, q3, by omega⟩
    · rw [hun, if_neg c]
      obtain ⟨f2, b1, b2, b3, b4, b5, b6, b7⟩ := rw_spec g a1 a2 (by omega) a3 a4 (show k < n by omega) c n (Nat.le_refl n)
      refine ⟨f2, b1, fun i hi => ?_, b3, b4, fun i => Nat.le_trans (b5 i) (a5 i), fun i hi hie j hj hE hI => ?_⟩
      · obtain ⟨c1, h1, q1, q2, q3, q4⟩ := b2 i hi
        exact ⟨c1, h1, q1, q2, q3, by omega⟩
      · by_cases z : i = k
        · subst z
          have h1 := a5 j
          have := b6 j hj hE (by omega)
          omega
        · rw [b7 i z]; exact a6 i (by omega) hie j hj hE hI
theorem bM : ∀ c h, c ≤ 720 → h ≤ 12 → 10000 * c + h < 999990000 := fun c h h1 h2 => by omega
theorem rs_spec (g : GRm n e E s σ0) (ha : agr σ σ0) (hr : rm n σ f 0) (h0 : f e = 0) (hS : Sup n e 10000 999990000 E s f) (hC : Cpl n e 10000 E s 0 f) : ∀ R, R ≤ n →
    ∃ f', agr (rsS σ e n R) σ0 ∧ rm n (rsS σ e n R) f' (144 * R) ∧ f' e = 0 ∧ Sup n e 10000 999990000 E s f' ∧ Cpl n e 10000 E s R f'
  | 0, _ => ⟨f, ha, hr, h0, hS, hC⟩
  | R + 1, hR => by
    obtain ⟨f1, a1, a2, a3, a4, a5⟩ := rs_spec g ha hr h0 hS hC R (by omega)
    have hn12 := g.2.1
    obtain ⟨f2, b1, b2, b3, b4, b5, b6⟩ := rdm_spec g a1 a2 (by omega) a3 a4 n (Nat.le_refl n)
    refine ⟨f2, b1, fun i hi => ?_, b3, b4, Cpl.step (I := 999990000) g.2.2.2.1 (fun c h h1 h2 => bM c h (by omega) (by omega)) b3 b6 a5⟩
    obtain ⟨c1, h1, q1, q2, q3, q4⟩ := b2 i hi
    exact ⟨c1, h1, q1, q2, q3, by omega⟩
theorem in_agr {σ : SS} {e : Nat} : ∀ r, agr (inS σ e r) σ
  | 0 => fun _ _ _ => rfl
  | r + 1 => fun k h1 h2 => by
    show stp (stp (inS σ e r) 24 r _) 25 r _ k = _
    rw [stp_k h2, stp_k h1]; exact in_agr r k h1 h2
theorem in_v {σ : SS} {e : Nat} : ∀ r k, k < r → inS σ e r 24 k = (if k = e then 0 else 99999) ∧ inS σ e r 25 k = 0
  | 0, k, h => by omega
  | r + 1, k, h => by
    show stp (stp (inS σ e r) 24 r _) 25 r _ 24 k = _ ∧ stp (stp (inS σ e r) 24 r _) 25 r _ 25 k = _
    by_cases c : k = r
    · subst c
      rw [stp_k (by decide), stp_s, stp_s]
      exact ⟨rfl, rfl⟩
    · rw [stp_i c, stp_i c, stp_i c, stp_i c]
      exact in_v r k (by omega)
/-- what the model's search finds: supported, complete -/
theorem ms_spec (g : GRm n e E s σ) : ∃ f, agr (fnS σ n e) σ ∧ rm n (fnS σ n e) f 2000 ∧ f e = 0 ∧ Sup n e 10000 999990000 E s f ∧ Cpl n e 10000 E s n f := by
  have hn12 := g.2.1
  obtain ⟨f, h1, h2, h3, h4, h5⟩ := rs_spec (σ := inS σ e n) (f := fun k => if k = e then 0 else 999990000) g (in_agr n) (fun k hk => by
    obtain ⟨v1, v2⟩ := in_v (σ := σ) (e := e) n k hk
    by_cases c : k = e
    · rw [if_pos c] at v1
      exact ⟨0, 0, v1, v2, by simp only [if_pos c], Or.inl (by omega)⟩
    · rw [if_neg c] at v1
      exact ⟨99999, 0, v1, v2, by simp only [if_neg c], Or.inr ⟨rfl, rfl⟩⟩) (if_pos rfl) (fun k hk hI => by
      by_cases c : k = e
      · exact Or.inl c
      · simp only [if_neg c] at hI; omega) (fun k c h hk w => by
      obtain ⟨rfl, rfl, rfl⟩ := w
      simp only [if_true]; omega) n (Nat.le_refl n)
  refine ⟨f, h1, fun k hk => ?_, h3, h4, h5⟩
  obtain ⟨c1, h1, q1, q2, q3, q4⟩ := h2 k hk
  exact ⟨c1, h1, q1, q2, q3, by omega⟩
end ModelSearch
/-! ===== both searches find the same way ===== -/
section Both
variable {n e : Nat} {E : Nat → Nat → Prop} {s : Nat → Nat} {nd : Nat → Nat → Int32} {σ : SS}
/-- the labels of both, and what the next node is -/
def LB (n e : Nat) (E : Nat → Nat → Prop) (s : Nat → Nat) (b : Nat → Int32) (σ' : SS) : Prop :=
  ∃ c h : Nat → Nat, (∀ k, k < n → (b k = FAR ∧ σ' 24 k = 99999) ∨ (c k ≤ 660 ∧ h k ≤ 11 ∧ b k = nI (100 * c k + h k) ∧ σ' 24 k = nI (c k) ∧ σ' 25 k = nI (h k) ∧ (h k = 0 → k = e) ∧ (k = e → h k = 0) ∧
    (k ≠ e → ∃ j, j < n ∧ E k j ∧ b j ≠ FAR ∧ c k = s j + c j ∧ h k = h j + 1))) ∧ b e ≠ FAR
theorem both_lb (gc : GRc n e E s nd) (gm : GRm n e E s σ) (b0 : Nat → Int32) : LB n e E s (waB nd n e 12 (iniB e b0 12)) (fnS σ n e) := by
  obtain ⟨f, f1, f2, f3, f4⟩ := cs_spec gc b0
  obtain ⟨g, g0, g1, g2, g3, g4⟩ := ms_spec gm
  obtain ⟨he, hn12, hse, hs60, -, -⟩ := gc
  generalize waB nd n e 12 (iniB e b0 12) = b at f1
  generalize fnS σ n e = σ' at g0 g1
  have f4 := f4.down hn12
  have hn1 : n ≤ (n - 1) + 1 := by omega
  have hFI : ∀ k, k < n → (b k ≠ FAR ↔ f k < 1000000) := fun k hk => by
    have := (f1 k hk).2
    rw [(f1 k hk).1, farI]
    constructor
    · intro h
      have : f k ≠ 1000000 := fun z => h (by rw [z])
      omega
    · intro h z
      have := (nI_eq (by omega) (by decide)).mp z
      omega
  -- the least walk of a node
  have best : ∀ k, k < n → f k < 1000000 → ∃ c h, Wk n e E s (n - 1) k c h ∧ f k = 100 * c + h ∧ g k = 10000 * c + h ∧ c ≤ 660 ∧ h ≤ 11 := fun k hk hI => by
    obtain ⟨c1, h1, w1, q1⟩ := f3.best hn1 hk hI
    have z1 := w1.hle
    have y1 := w1.cle hs60
    have p1 := f4 k c1 h1 hk (w1.upn (by omega))
    have p2 := g4 k c1 h1 hk (w1.upn (by omega))
    have hgI : g k < 999990000 := by show _ < 999990000; omega
    obtain ⟨c2, h2, w2, q2⟩ := g3.best hn1 hk hgI
    have z2 := w2.hle
    have y2 := w2.cle hs60
    have p3 := f4 k c2 h2 hk (w2.upn (by omega))
    have p4 := g4 k c2 h2 hk (w2.upn (by omega))
    have ec : c1 = c2 := by omega
    have eh : h1 = h2 := by omega
    subst ec eh
    exact ⟨c1, h1, w1, by omega, by omega, by omega, by omega⟩
  have back : ∀ k, k < n → g k < 999990000 → f k < 1000000 := fun k hk hI => by
    obtain ⟨c2, h2, w2, q2⟩ := g3.best hn1 hk hI
    have z2 := w2.hle
    have y2 := w2.cle hs60
    have p3 := f4 k c2 h2 hk (w2.upn (by omega))
    show _ < 1000000
    omega
  refine ⟨fun k => f k / 100, fun k => f k % 100, fun k hk => ?_, (hFI e he).mpr (by rw [f2]; decide)⟩
  obtain ⟨c', h', m1, m2, m3, m4⟩ := g1 k hk
  dsimp only
  by_cases hI : f k < 1000000
  · obtain ⟨c, h, w, e1, e2, e3, e4⟩ := best k hk hI
    have d1 : f k / 100 = c := by omega
    have d2 : f k % 100 = h := by omega
    have d3 : c' = c := by omega
    have d4 : h' = h := by omega
    subst d3 d4
    refine Or.inr ⟨by omega, by omega, ?_, by rw [d1]; exact m1, by rw [d2]; exact m2, fun z => ?_, fun z => ?_, fun hne => ?_⟩
    · rw [(f1 k hk).1, d1, d2, e1]
    · -- no hops: the end
      by_cases hke : k = e
      · exact hke
      · exfalso
        have hz : h' = 0 := by omega
        have hr : ∃ r, n - 1 = r + 1 ∨ n - 1 = 0 := ⟨n - 2, by omega⟩
        obtain ⟨r, hr⟩ := hr
        rcases hr with hr | hr
        · rw [hr] at w
          rcases w with ⟨a, _, _⟩ | ⟨_, j, c1, h1, _, _, _, _, a⟩
          · exact hke a
          · omega
        · rw [hr] at w
          exact hke w.1
    · subst z
      have : f k = 0 := f2
      omega
    · have hr : ∃ r, n - 1 = r + 1 ∨ n - 1 = 0 := ⟨n - 2, by omega⟩
      obtain ⟨r, hr⟩ := hr
      rcases hr with hr | hr
      · rw [hr] at w
        rcases w with ⟨a, _, _⟩ | ⟨_, j, c1, h1, hj, hE, w', a1, a2⟩
        · exact absurd a hne
        · have hj1 := f4 j c1 h1 hj (w'.upn (by omega))
          have y1 := w'.cle hs60
          have z1 := w'.hle
          have hjI : f j < 1000000 := by show _ < 1000000; omega
          obtain ⟨cj, hj', wj, b1, b2, b3, b4⟩ := best j hj hjI
          -- k over j, by j's best walk
          have wk : Wk n e E s n k (s j + cj) (hj' + 1) := by
            have : Wk n e E s ((n - 1) + 1) k (s j + cj) (hj' + 1) := Or.inr ⟨hne, j, cj, hj', hj, hE, wj, rfl, rfl⟩
            rwa [show n - 1 + 1 = n by omega] at this
          have hk1 := f4 k _ _ hk wk
          rw [Nat.mul_add] at hk1
          have hsj := hs60 j hj
          refine ⟨j, hj, hE, (hFI j hj).mpr hjI, ?_, ?_⟩
          · show f k / 100 = s j + f j / 100
            omega
          · show f k % 100 = f j % 100 + 1
            omega
      · rw [hr] at w
        exact absurd w.1 hne
  · refine Or.inl ⟨?_, ?_⟩
    · have := (f1 k hk).2
      rw [(f1 k hk).1, farI, show f k = 1000000 by omega]
    · have hg : ¬ g k < 999990000 := fun z => hI (back k hk z)
      have hg : ¬ g k < 999990000 := hg
      rw [m1, show c' = 99999 by omega]; rfl
theorem mtc_i (gc : GRc n e E s nd) (gm : GRm n e E s σ) {b : Nat → Int32} {σ' : SS} (ha : agr σ' σ) {c h : Nat → Nat} (hL : ∀ k, k < n → (b k = FAR ∧ σ' 24 k = 99999) ∨ (c k ≤ 660 ∧ h k ≤ 11 ∧ b k = nI (100 * c k + h k) ∧ σ' 24 k = nI (c k) ∧ σ' 25 k = nI (h k)))
    {i j : Nat} (hi : i < n) (hj : j < n) (hF : b i ≠ FAR) (hbe : b e = 0) : ovN nd b e i j = b i ↔ mtc σ' e i j := by
  obtain ⟨he, hn12, hse, hs60, gE, gw⟩ := gc
  rcases hL i hi with ⟨a, _⟩ | ⟨i1, i2, i3, i4, i5⟩
  · exact absurd a hF
  have hsj := hs60 j hj
  have h11 := ha 11 (by decide) (by decide)
  have hEm := gm.2.2.2.2.1 i j hi hj
  have hEc := gE i j hi hj
  by_cases hE : E i j
  · have hsp := sp_yes gm ha hi hj hE
    obtain ⟨cl, cr⟩ := hEc.mp hE
    rcases hL j hj with ⟨a, a2⟩ | ⟨j1, j2, j3, j4, j5⟩
    · have hje : j ≠ e := fun z => by rw [z, hbe] at a; cases a
      have : ovN nd b e i j = FAR := by
        unfold ovN
        rw [if_pos cl, if_neg hje, if_neg (fun q => q.2 a)]
      rw [this]
      constructor
      · intro z; exact absurd z.symm hF
      · rintro ⟨⟨_, z, _⟩, _⟩
        rw [a2] at z
        exact absurd z (by decide)
    · have hov : ovN nd b e i j = nI (100 * s j + 1 + (100 * c j + h j)) := by
        unfold ovN
        rw [if_pos cl]
        by_cases z : j = e
        · subst z
          rw [if_pos rfl, hse]
          rw [hbe] at j3
          have := (nI_eq (a := 0) (by decide) (by omega)).mp j3
          rw [show 100 * c j + h j = 0 by omega]; rfl
        · have hne : ¬ b j = FAR := by
            rw [j3, farI, nI_eq (by omega) (by decide)]; omega
          rw [if_neg z, if_pos ⟨cr.resolve_left z, hne⟩, gw j hj z, j3]
          show nI (s j) * nI 100 + nI 1 + nI _ = _
          rw [pk_mul, nI_add, nI_add]
          congr 1; omega
      rw [hov, i3, nI_eq (by omega) (by omega)]
      have hL9 : isL σ' e i j := ⟨by rw [h11]; exact (hEm.mp hE).1, by rw [j4]; exact nI_lt (b := 99999) (by omega) (by decide), by rw [hsp]; exact nI_lt (b := 99999) (by omega) (by decide)⟩
      constructor
      · intro z
        refine ⟨hL9, ?_, ?_⟩
        · rw [hsp, j4, i4, nI_add, nI_eq (by omega) (by omega)]; omega
        · rw [j5, i5, nI_1, nI_eq (by omega) (by omega)]; omega
      · rintro ⟨_, z1, z2⟩
        rw [hsp, j4, i4, nI_add, nI_eq (by omega) (by omega)] at z1
        rw [j5, i5, nI_1, nI_eq (by omega) (by omega)] at z2
        omega
  · have h1 : ovN nd b e i j = FAR := by
      unfold ovN
      by_cases cl : lnkB (nd i 9) j = true
      · rw [if_pos cl]
        have hje : j ≠ e := fun z => hE (hEc.mpr ⟨cl, Or.inl z⟩)
        rw [if_neg hje, if_neg (fun q => hE (hEc.mpr ⟨cl, Or.inr q.1⟩))]
      · rw [if_neg cl]
    rw [h1]
    constructor
    · intro z; exact absurd z.symm hF
    · rintro ⟨⟨z1, z2, z3⟩, _⟩
      exfalso
      rw [h11] at z1
      by_cases hje : j = e
      · exact hE (hEm.mpr ⟨z1, Or.inl hje⟩)
      · rw [spS_agr ha] at z3
        unfold spS at z3
        rw [if_neg hje] at z3
        by_cases y : rlM σ j = true
        · exact hE (hEm.mpr ⟨z1, Or.inr y⟩)
        · rw [if_neg y] at z3
          exact absurd z3 (by decide)
theorem lnX_first {b : Nat → Int32} {i j : Nat} (h1 : ovN nd b e i j = b i) : ∀ r a, a ≤ j → j < a + r → (∀ q, a ≤ q → q < j → ¬ ovN nd b e i q = b i) → lnX nd b e i r a = j
  | 0, a, h2, h3, _ => by omega
  | r + 1, a, h2, h3, h4 => by
    show (if ovN nd b e i a = b i then a else lnX nd b e i r (a + 1)) = j
    by_cases c : a = j
    · subst c; rw [if_pos h1]
    · rw [if_neg (h4 a (Nat.le_refl _) (by omega))]
      exact lnX_first h1 r (a + 1) (by omega) (by omega) (fun q a1 a2 => h4 q (by omega) a2)
theorem nxD_below {σ' : SS} {i j : Nat} (h4 : ∀ q, q < j → ¬ mtc σ' e i q) : ∀ r f, r ≤ j → nxD σ' e i r f = f
  | 0, f, _ => rfl
  | r + 1, f, h => by
    show nxD σ' e i r (if mtc σ' e i r then nI r else f) = f
    rw [if_neg (h4 r (by omega))]
    exact nxD_below h4 r f (by omega)
theorem nxD_first {σ' : SS} {i j : Nat} (h1 : mtc σ' e i j) (h4 : ∀ q, q < j → ¬ mtc σ' e i q) : ∀ r f, j < r → nxD σ' e i r f = nI j
  | 0, _, h => by omega
  | r + 1, f, h => by
    show nxD σ' e i r (if mtc σ' e i r then nI r else f) = nI j
    by_cases c : j = r
    · subst c
      rw [if_pos h1]
      exact nxD_below h4 j _ (Nat.le_refl _)
    · exact nxD_first h1 h4 r _ (by omega)
/-- BOTH SEARCHES: no way, or the same way -/
theorem both_way (gc : GRc n e E s nd) (gm : GRm n e E s σ) (b0 : Nat → Int32) {fr : Nat} (hf : fr < n) :
    (waB nd n e 12 (iniB e b0 12) fr = FAR ∧ fnS σ n e 24 fr = 99999) ∨
    ∃ h, waB nd n e 12 (iniB e b0 12) fr ≠ FAR ∧ h ≤ 11 ∧ fnS σ n e 24 fr < 99999 ∧ (∀ q, q < h → pth nd (waB nd n e 12 (iniB e b0 12)) e n fr q ≠ e) ∧ pth nd (waB nd n e 12 (iniB e b0 12)) e n fr h = e ∧
      PTM (fnS σ n e) n e fr h (pth nd (waB nd n e 12 (iniB e b0 12)) e n fr) := by
  obtain ⟨f, f1, f2, -, -⟩ := cs_spec gc b0
  obtain ⟨-, ha, -⟩ := ms_spec gm
  obtain ⟨c, h, hl, hbe⟩ := both_lb gc gm b0
  have he := gc.1
  have hb0 : waB nd n e 12 (iniB e b0 12) e = 0 := by rw [(f1 e he).1, f2]; rfl
  generalize waB nd n e 12 (iniB e b0 12) = b at hl hbe hb0 ⊢
  clear f1
  generalize fnS σ n e = σ' at ha hl ⊢
  have hL : ∀ k, k < n → (b k = FAR ∧ σ' 24 k = 99999) ∨ (c k ≤ 660 ∧ h k ≤ 11 ∧ b k = nI (100 * c k + h k) ∧ σ' 24 k = nI (c k) ∧ σ' 25 k = nI (h k)) := fun k hk => (hl k hk).imp id (fun ⟨a1, a2, a3, a4, a5, _⟩ => ⟨a1, a2, a3, a4, a5⟩)
  -- the next node
  have nx : ∀ i, i < n → b i ≠ FAR → i ≠ e → ∃ j, j < n ∧ b j ≠ FAR ∧ h i = h j + 1 ∧ lnX nd b e i n 0 = j ∧ nxD σ' e i n (-1) = nI j := fun i hi hF hie => by
    rcases hl i hi with ⟨a, _⟩ | ⟨i1, i2, i3, i4, i5, i6, i7, i8⟩
    · exact absurd a hF
    obtain ⟨j, hj, hE, hjF, ec, eh⟩ := i8 hie
    have hm : mtc σ' e i j := by
      rcases hL j hj with ⟨a, _⟩ | ⟨j1, j2, j3, j4, j5⟩
      · exact absurd a hjF
      have hsp := sp_yes gm ha hi hj hE
      have hsj := gc.2.2.2.1 j hj
      refine ⟨⟨by rw [ha 11 (by decide) (by decide)]; exact ((gm.2.2.2.2.1 i j hi hj).mp hE).1, by rw [j4]; exact nI_lt (b := 99999) (by omega) (by decide), by rw [hsp]; exact nI_lt (b := 99999) (by omega) (by decide)⟩, ?_, ?_⟩
      · rw [hsp, j4, i4, nI_add, nI_eq (by omega) (by omega)]; omega
      · rw [j5, i5, nI_1, nI_eq (by omega) (by omega)]; omega
    obtain ⟨j0, hm0, hmin⟩ := pk_least (fun q => q < n ∧ mtc σ' e i q) ⟨j, hj, hm⟩
    obtain ⟨hj0, hm0⟩ := hm0
    have hno : ∀ q, q < j0 → ¬ mtc σ' e i q := fun q hq z => hmin q hq ⟨by omega, z⟩
    refine ⟨j0, hj0, ?_, ?_, lnX_first ((mtc_i gc gm ha hL hi hj0 hF hb0).mpr hm0) n 0 (by omega) (by omega) (fun q _ hq z => hno q hq ((mtc_i gc gm ha hL hi (by omega) hF hb0).mp z)), nxD_first hm0 hno n (-1) hj0⟩
    · intro z
      rcases hl j0 hj0 with ⟨_, a⟩ | ⟨_, q2, a, _⟩
      · have := hm0.1.2.1
        rw [a] at this
        exact absurd this (by decide)
      · rw [a, farI, nI_eq (by omega) (by decide)] at z
        omega
    · have z := hm0.2.2
      rcases hL j0 hj0 with ⟨_, a⟩ | ⟨j1, j2, j3, j4, j5⟩
      · have := hm0.1.2.1
        rw [a] at this
        exact absurd this (by decide)
      · rw [j5, i5, nI_1, nI_eq (by omega) (by omega)] at z
        omega
  by_cases hF : b fr = FAR
  · rcases hL fr hf with a | ⟨q1, q2, a, _⟩
    · exact Or.inl a
    · rw [a, farI, nI_eq (by omega) (by decide)] at hF
      omega
  refine Or.inr ⟨h fr, hF, ?_, ?_, ?_⟩
  · rcases hL fr hf with ⟨a, _⟩ | ⟨_, a, _⟩
    · exact absurd a hF
    · exact a
  · rcases hL fr hf with ⟨a, _⟩ | ⟨a0, _, _, a, _⟩
    · exact absurd a hF
    · rw [a]; exact nI_lt (b := 99999) (by omega) (by decide)
  have st : ∀ q, q ≤ h fr → pth nd b e n fr q < n ∧ b (pth nd b e n fr q) ≠ FAR ∧ h (pth nd b e n fr q) + q = h fr := by
    intro q
    induction q with
    | zero => exact fun _ => ⟨hf, hF, rfl⟩
    | succ q ih =>
      intro hq
      obtain ⟨p1, p2, p3⟩ := ih (by omega)
      have hpe : pth nd b e n fr q ≠ e := fun z => by
        rcases hl _ p1 with ⟨a, _⟩ | ⟨_, _, _, _, _, _, a, _⟩
        · exact p2 a
        · have := a z; omega
      obtain ⟨j, j1, j2, j3, j4, j5⟩ := nx _ p1 p2 hpe
      have e1 : pth nd b e n fr (q + 1) = j := j4
      rw [e1]
      exact ⟨j1, j2, by omega⟩
  have ne : ∀ q, q < h fr → pth nd b e n fr q ≠ e := fun q hq z => by
    obtain ⟨p1, p2, p3⟩ := st q (by omega)
    rcases hl _ p1 with ⟨a, _⟩ | ⟨_, _, _, _, _, _, a, _⟩
    · exact p2 a
    · have := a z; omega
  have en : pth nd b e n fr (h fr) = e := by
    obtain ⟨p1, p2, p3⟩ := st (h fr) (Nat.le_refl _)
    rcases hl _ p1 with ⟨a, _⟩ | ⟨_, _, _, _, _, a, _⟩
    · exact absurd a p2
    · exact a (by omega)
  refine ⟨ne, en, ?_, rfl, en, ne, fun q hq => (st q hq).1, fun q hq => ?_⟩
  · rcases hL fr hf with ⟨a, _⟩ | ⟨_, a, _⟩
    · exact absurd a hF
    · exact a
  · obtain ⟨p1, p2, p3⟩ := st q (by omega)
    obtain ⟨j, j1, j2, j3, j4, j5⟩ := nx _ p1 p2 (ne q hq)
    have e1 : pth nd b e n fr (q + 1) = j := j4
    rw [e1]; exact j5
end Both
