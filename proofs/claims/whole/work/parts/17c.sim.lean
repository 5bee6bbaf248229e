/-! ===== the class's data beside the model's ===== -/
/-- one node -/
def SN (f : Nat → Int32) (σ : SS) (t i : Nat) : Prop :=
  f 0 = σ 2 i ∧ f 1 = σ 3 i ∧ f 2 = σ 4 i ∧ f 3 = σ 5 i ∧ f 4 = σ 6 i ∧ f 6 = σ 9 i ∧ f 7 = σ 10 i ∧ f 8 = σ 8 i ∧
  (σ 6 i = 0 ∨ σ 6 i = 1 ∨ σ 6 i = 2) ∧ (∃ p, p ≤ 50 ∧ σ 4 i = nI p) ∧ (∃ q, q ≤ 100 ∧ σ 5 i = nI q) ∧
  (σ 6 i = 1 → f 5 = σ 7 i ∧ ∃ g, σ 7 i = nI g ∧ t < g ∧ g ≤ 5100) ∧ (σ 6 i ≠ 1 → f 5 = -1) ∧
  ∀ j, j < 12 → (lnkB (f 9) j = true ↔ ¬ σ 11 (12 * i + j) = 0)
/-- one message -/
def SM (f6 f7 f8 f9 : Nat → Int32) (σ : SS) (n i : Nat) : Prop := ∃ hh pl, σ 14 i = nI hh ∧ 1 ≤ hh ∧ hh ≤ 11 ∧ σ 15 i = nI pl ∧ f7 0 = nI hh ∧ f7 1 = σ 16 i ∧ f6 0 = σ 13 i ∧ f6 1 = nI pl ∧ f6 3 = σ 17 i ∧ f6 4 = σ 18 i ∧
  ((σ 13 i = 0 ∧ pl < hh ∧ f6 2 = nI pl) ∨ ((σ 13 i = 1 ∨ σ 13 i = 2) ∧ 1 ≤ pl ∧ pl ≤ hh ∧ f6 2 = nI (pl - 1))) ∧
  (∀ q, q ≤ hh → f8 q = wN σ i q ∧ ∃ x, x < n ∧ wN σ i q = nI x) ∧ ∀ q, 1 ≤ q → q ≤ hh → f9 q = wF σ i q
/-- the ticks and the turns -/
def ST (τ : T3) (σ : SS) (n t : Nat) : Prop := τ 0 0 0 = nI t ∧ (∀ q, q ≤ t → t ≤ q + 10 → τ 16 0 (q % 11) = σ 21 q - 1 ∧ τ 17 0 (q % 11) = σ 22 q ∧ τ 18 0 (q % 11) = σ 23 q) ∧
  (∀ q, q ≤ t → σ 21 q = 0 ∨ ∃ z, z < n ∧ σ 21 q = nI (z + 1)) ∧ (∀ q, t < q → σ 22 q = 0 ∧ σ 23 q = 0) ∧ ∀ r, r < 11 → τ 16 0 r = -1 ∨ ∃ z, z < n ∧ τ 16 0 r = nI z
def SE (σ : SS) (n : Nat) : Prop := ∀ i, n ≤ i → i < 12 → σ 6 i = 0 ∧ σ 8 i = 0 ∧ σ 9 i = 0 ∧ σ 10 i = 0 ∧ ∀ j, j < 12 → σ 11 (12 * i + j) = 0
def SX (σ : SS) (m : Nat) : Prop := ∀ i, m ≤ i → σ 13 i = 0 ∧ σ 17 i = 0 ∧ σ 18 i = 0
def Sim (n m t : Nat) (τ : T3) (σ : SS) : Prop := (n ≤ 12 ∧ m ≤ 60 ∧ t ≤ 5000) ∧ (∀ i, i < n → SN (τ 3 i) σ t i) ∧ SE σ n ∧ (∀ i, i < m → SM (τ 6 i) (τ 7 i) (τ 8 i) (τ 9 i) σ n i) ∧ SX σ m ∧ ST τ σ n t ∧ ∀ x, x < n → σ 9 x = paA τ (nI x) m
theorem SN.cong {f : Nat → Int32} {σ σ' : SS} {t i : Nat} (h : SN f σ t i) (h1 : ∀ k, 2 ≤ k → k ≤ 10 → σ' k i = σ k i) (h2 : ∀ j, j < 12 → σ' 11 (12 * i + j) = σ 11 (12 * i + j)) : SN f σ' t i := by
  obtain ⟨a0, a1, a2, a3, a4, a6, a7, a8, ah, ap, aq, al, an, ak⟩ := h
  have e2 := h1 2 (by decide) (by decide)
  have e3 := h1 3 (by decide) (by decide)
  have e4 := h1 4 (by decide) (by decide)
  have e5 := h1 5 (by decide) (by decide)
  have e6 := h1 6 (by decide) (by decide)
  have e7 := h1 7 (by decide) (by decide)
  have e8 := h1 8 (by decide) (by decide)
  have e9 := h1 9 (by decide) (by decide)
  have e10 := h1 10 (by decide) (by decide)
  unfold SN
  rw [e2, e3, e4, e5, e6, e7, e8, e9, e10]
  exact ⟨a0, a1, a2, a3, a4, a6, a7, a8, ah, ap, aq, al, an, fun j hj => by rw [h2 j hj]; exact ak j hj⟩
theorem SM.cong {f6 f7 f8 f9 : Nat → Int32} {σ σ' : SS} {n n' i : Nat} (h : SM f6 f7 f8 f9 σ n i) (hn : n ≤ n') (h1 : ∀ k, 13 ≤ k → k ≤ 18 → σ' k i = σ k i) (h2 : ∀ q, q ≤ 11 → σ' 19 (13 * i + q) = σ 19 (13 * i + q)) (h3 : ∀ q, q ≤ 11 → σ' 20 (13 * i + q) = σ 20 (13 * i + q)) : SM f6 f7 f8 f9 σ' n' i := by
  obtain ⟨hh, pl, a1, a2, a3, a4, a5, a6, a7, a8, a9, a10, a11, a12, a13⟩ := h
  refine ⟨hh, pl, ?_⟩
  rw [h1 13 (by decide) (by decide), h1 14 (by decide) (by decide), h1 15 (by decide) (by decide), h1 16 (by decide) (by decide), h1 17 (by decide) (by decide), h1 18 (by decide) (by decide)]
  refine ⟨a1, a2, a3, a4, a5, a6, a7, a8, a9, a10, a11, fun q hq => ?_, fun q hq hq2 => ?_⟩
  · obtain ⟨b1, x, b2, b3⟩ := a12 q hq
    have e := h2 q (by omega)
    exact ⟨b1.trans e.symm, x, by omega, e.trans b3⟩
  · exact (a13 q hq hq2).trans (h3 q (by omega)).symm
theorem ST.cong {τ τ' : T3} {σ σ' : SS} {n n' t : Nat} (h : ST τ σ n t) (hn : n ≤ n') (h0 : τ' 0 0 0 = τ 0 0 0) (h16 : τ' 16 0 = τ 16 0) (h17 : τ' 17 0 = τ 17 0) (h18 : τ' 18 0 = τ 18 0) (k1 : σ' 21 = σ 21) (k2 : σ' 22 = σ 22) (k3 : σ' 23 = σ 23) : ST τ' σ' n' t := by
  obtain ⟨a, b, c, d, f⟩ := h
  unfold ST
  rw [h0, h16, h17, h18, k1, k2, k3]
  exact ⟨a, b, fun q hq => (c q hq).imp id (fun ⟨z, z1, z2⟩ => ⟨z, by omega, z2⟩), d, fun r hr => (f r hr).imp id (fun ⟨z, z1, z2⟩ => ⟨z, by omega, z2⟩)⟩
theorem paA_cong {τ τ' : T3} {x : Int32} : ∀ (m : Nat), (∀ i, i < m → τ' 6 i = τ 6 i ∧ τ' 8 i = τ 8 i ∧ τ' 9 i = τ 9 i) → paA τ' x m = paA τ x m
  | 0, _ => rfl
  | m + 1, h => by
    obtain ⟨h1, h2, h3⟩ := h m (by omega)
    show (if τ' 6 m 0 = 0 then paA τ' x m else paA τ' x m + rpS (τ' 8 m) (τ' 9 m) x (ix (τ' 6 m 2))) = if τ 6 m 0 = 0 then paA τ x m else paA τ x m + rpS (τ 8 m) (τ 9 m) x (ix (τ 6 m 2))
    rw [h1, h2, h3, paA_cong m (fun i hi => h i (by omega))]
theorem rpS_cong {f g f' g' : Nat → Int32} {x : Int32} : ∀ (r : Nat), (∀ q, 1 ≤ q → q ≤ r → f q = f' q ∧ g q = g' q) → rpS f g x r = rpS f' g' x r
  | 0, _ => rfl
  | r + 1, h => by
    obtain ⟨h1, h2⟩ := h (r + 1) (by omega) (by omega)
    show (if f (r + 1) = x then rpS f g x r + g (r + 1) else rpS f g x r) = if f' (r + 1) = x then rpS f' g' x r + g' (r + 1) else rpS f' g' x r
    rw [h1, h2, rpS_cong r (fun q a b => h q a (by omega))]
theorem rpS_none {f g : Nat → Int32} {x : Int32} : ∀ (r : Nat), (∀ q, 1 ≤ q → q ≤ r → f q ≠ x) → rpS f g x r = 0
  | 0, _ => rfl
  | r + 1, h => by
    show (if f (r + 1) = x then rpS f g x r + g (r + 1) else rpS f g x r) = 0
    rw [if_neg (h (r + 1) (by omega) (by omega)), rpS_none r (fun q a b => h q a (by omega))]
section Simul
variable {n m t : Nat} {τ τ' : T3} {σ σ' : SS}
theorem Sim.n12 (h : Sim n m t τ σ) : n ≤ 12 := h.1.1
theorem Sim.m60 (h : Sim n m t τ σ) : m ≤ 60 := h.1.2.1
theorem Sim.t5 (h : Sim n m t τ σ) : t ≤ 5000 := h.1.2.2
theorem Sim.sn (h : Sim n m t τ σ) {i : Nat} (hi : i < n) : SN (τ 3 i) σ t i := h.2.1 i hi
theorem Sim.se (h : Sim n m t τ σ) : SE σ n := h.2.2.1
theorem Sim.sm (h : Sim n m t τ σ) {i : Nat} (hi : i < m) : SM (τ 6 i) (τ 7 i) (τ 8 i) (τ 9 i) σ n i := h.2.2.2.1 i hi
theorem Sim.sx (h : Sim n m t τ σ) : SX σ m := h.2.2.2.2.1
theorem Sim.st (h : Sim n m t τ σ) : ST τ σ n t := h.2.2.2.2.2.1
theorem Sim.got (h : Sim n m t τ σ) {x : Nat} (hx : x < n) : σ 9 x = paA τ (nI x) m := h.2.2.2.2.2.2 x hx
/-- the scratch rows don't count -/
theorem Sim.cong (h : Sim n m t τ σ) (h1 : oth τ' τ) (h2 : agr σ' σ) : Sim n m t τ' σ' := by
  have o : ∀ k, k ≠ 11 → k ≠ 12 → k ≠ 13 → k ≠ 14 → τ' k = τ k := h1
  have a : ∀ k, k ≠ 24 → k ≠ 25 → σ' k = σ k := h2
  refine ⟨h.1, fun i hi => ?_, fun i h1 h2 => ?_, fun i hi => ?_, fun i hi => ?_, ?_, fun x hx => ?_⟩
  · rw [o 3 (by decide) (by decide) (by decide) (by decide)]
    exact (h.sn hi).cong (fun k h1 h2 => by rw [a k (by omega) (by omega)]) (fun j _ => by rw [a 11 (by decide) (by decide)])
  · rw [a 6 (by decide) (by decide), a 8 (by decide) (by decide), a 9 (by decide) (by decide), a 10 (by decide) (by decide), a 11 (by decide) (by decide)]
    exact h.se i h1 h2
  · rw [o 6 (by decide) (by decide) (by decide) (by decide), o 7 (by decide) (by decide) (by decide) (by decide), o 8 (by decide) (by decide) (by decide) (by decide), o 9 (by decide) (by decide) (by decide) (by decide)]
    exact (h.sm hi).cong (Nat.le_refl _) (fun k h1 h2 => by rw [a k (by omega) (by omega)]) (fun j _ => by rw [a 19 (by decide) (by decide)]) (fun j _ => by rw [a 20 (by decide) (by decide)])
  · rw [a 13 (by decide) (by decide), a 17 (by decide) (by decide), a 18 (by decide) (by decide)]
    exact h.sx i hi
  · refine h.st.cong (Nat.le_refl _) ?_ ?_ ?_ ?_ (a 21 (by decide) (by decide)) (a 22 (by decide) (by decide)) (a 23 (by decide) (by decide))
    · rw [o 0 (by decide) (by decide) (by decide) (by decide)]
    · rw [o 16 (by decide) (by decide) (by decide) (by decide)]
    · rw [o 17 (by decide) (by decide) (by decide) (by decide)]
    · rw [o 18 (by decide) (by decide) (by decide) (by decide)]
  · rw [a 9 (by decide) (by decide), h.got hx]
    exact (paA_cong m fun i hi => by rw [o 6 (by decide) (by decide) (by decide) (by decide), o 8 (by decide) (by decide) (by decide) (by decide), o 9 (by decide) (by decide) (by decide) (by decide)]; exact ⟨rfl, rfl, rfl⟩).symm
/-- one node changes: its purse, stake, price, trust, how, goneAt, losses -/
theorem Sim.node1 (h : Sim n m t τ σ) {i : Nat} (hi : i < n) {f' : Nat → Int32} (hN : SN f' σ' t i) (hk : ∀ k y, y ≠ i → σ' k y = σ k y) (hr : ∀ k, k < 2 ∨ 8 < k → σ' k = σ k) : Sim n m t (tset τ 3 i f') σ' := by
  refine ⟨h.1, fun y hy => ?_, fun y h1 h2 => ?_, fun y hy => ?_, fun y hy => ?_, ?_, fun x hx => ?_⟩
  · by_cases c : y = i
    · subst c; rw [tset_s]; exact hN
    · rw [tset_n (fun q => c q.2)]
      exact (h.sn hy).cong (fun k _ _ => hk k y c) (fun j _ => by rw [hr 11 (by omega)])
  · have hyi : y ≠ i := by omega
    rw [hk 6 y hyi, hk 8 y hyi, hr 9 (by omega), hr 10 (by omega), hr 11 (by omega)]
    exact h.se y h1 h2
  · rw [tset_k (by decide), tset_k (by decide), tset_k (by decide), tset_k (by decide)]
    exact (h.sm hy).cong (Nat.le_refl _) (fun k h1 h2 => by rw [hr k (by omega)]) (fun j _ => by rw [hr 19 (by omega)]) (fun j _ => by rw [hr 20 (by omega)])
  · rw [hr 13 (by omega), hr 17 (by omega), hr 18 (by omega)]
    exact h.sx y hy
  · exact h.st.cong (Nat.le_refl _) (by rw [tset_k (by decide)]) (tset_k (by decide)) (tset_k (by decide)) (tset_k (by decide)) (hr 21 (by omega)) (hr 22 (by omega)) (hr 23 (by omega))
  · rw [hr 9 (by omega), h.got hx]
    exact (paA_cong m fun i hi => ⟨tset_k (by decide), tset_k (by decide), tset_k (by decide)⟩).symm
/-! the searches of both, side by side -/
def gE (σ : SS) (e : Nat) : Nat → Nat → Prop := fun i j => (¬ σ 11 (12 * i + j) = 0) ∧ (j = e ∨ rlM σ j = true)
def gs (σ : SS) (e : Nat) : Nat → Nat := fun j => if j = e then 0 else ix (σ 4 j + (100 - σ 5 j) / 10)
theorem SN.wt {f : Nat → Int32} {i : Nat} (h : SN f σ t i) : ∃ w, w ≤ 60 ∧ σ 4 i + (100 - σ 5 i) / 10 = nI w := by
  obtain ⟨_, _, _, _, _, _, _, _, _, ⟨p, p1, p2⟩, ⟨q, q1, q2⟩, _⟩ := h
  refine ⟨p + (100 - q) / 10, by omega, ?_⟩
  rw [p2, q2]
  show nI p + (nI 100 - nI q) / nI 10 = _
  rw [pk_sub q1, pk_div (by omega) (by decide) (by decide), nI_add]
theorem Sim.gm (h : Sim n m t τ σ) {e : Nat} (he : e < n) : GRm n e (gE σ e) (gs σ e) σ := by
  refine ⟨he, h.n12, if_pos rfl, fun j hj => ?_, fun i j _ _ => Iff.rfl, fun j hj hje => ?_⟩
  · obtain ⟨w, w1, w2⟩ := (h.sn hj).wt
    unfold gs
    by_cases c : j = e
    · rw [if_pos c]; omega
    · rw [if_neg c, w2, ix_nI (by omega)]; exact w1
  · obtain ⟨w, w1, w2⟩ := (h.sn hj).wt
    unfold gs
    rw [if_neg hje, w2, ix_nI (by omega)]
theorem Sim.gc (h : Sim n m t τ σ) {e : Nat} (he : e < n) : GRc n e (gE σ e) (gs σ e) (τ 3) := by
  obtain ⟨g1, g2, g3, g4, g5, g6⟩ := h.gm he
  refine ⟨g1, g2, g3, g4, fun i j hi hj => ?_, fun j hj hje => ?_⟩
  · obtain ⟨_, b1, b2, _, b4, _⟩ := h.sn hj
    obtain ⟨_, _, _, _, _, _, _, _, _, _, _, _, _, ak⟩ := h.sn hi
    have er : rlyB (τ 3 j) = rlM σ j := by unfold rlyB rlM; rw [b1, b2, b4]
    rw [er, ak j (by omega)]
    exact Iff.rfl
  · obtain ⟨_, _, b2, b3, _⟩ := h.sn hj
    rw [← g6 j hj hje]
    unfold wgt
    rw [b2, b3]
/-- what a way costs: alike, and small -/
theorem sum_small {f : Nat → Int32} : ∀ (k : Nat), (∀ q, q < k → ∃ p, p ≤ 50 ∧ f q = nI p) → ∃ c, c ≤ 50 * k ∧ bx_sum f k = nI c
  | 0, _ => ⟨0, Nat.le_refl _, rfl⟩
  | k + 1, h => by
    obtain ⟨c, c1, c2⟩ := sum_small k (fun q hq => h q (by omega))
    obtain ⟨p, p1, p2⟩ := h k (by omega)
    refine ⟨c + p, by omega, ?_⟩
    show bx_sum f k + f k = _
    rw [c2, p2, nI_add]
/-- SEARCH: no way on either side, or the same one, at the same price -/
theorem Sim.search (h : Sim n m t τ σ) {i j : Nat} (hi : i < n) (hj : j < n) :
    (noW τ n i j ∧ (∀ hh, ¬ wayP τ n i j hh) ∧ 99999 ≤ fnS σ n j 24 i) ∨
    ∃ hh p, wayP τ n i j hh ∧ ¬ noW τ n i j ∧ (∀ h', wayP τ n i j h' → h' = hh) ∧ ¬ 99999 ≤ fnS σ n j 24 i ∧ PTM (fnS σ n j) n j i hh p ∧ (∀ q, pth (τ 3) (wBF τ n j) j n i q = p q) ∧
      (∀ q, pgs (τ 3) (wBF τ n j) j n i q = pgM (fnS σ n j) j p q) ∧ bx_sum (pgM (fnS σ n j) j p) (hh + 1) = wcost τ n i j hh ∧ ∃ c, c ≤ 600 ∧ wcost τ n i j hh = nI c := by
  rcases both_way (h.gc hj) (h.gm hj) (τ 11 0) hi with ⟨a1, a2⟩ | ⟨hh, a1, a2, a3, a4, a5, a6⟩
  · refine Or.inl ⟨Or.inl a1, fun _ w => w.1 a1, ?_⟩
    rw [a2]; decide
  · have hw : wayP τ n i j hh := ⟨a1, a2, a4, a5⟩
    have hag := (ms_spec (h.gm hj)).choose_spec.1
    have hpg : ∀ q, pgs (τ 3) (wBF τ n j) j n i q = pgM (fnS σ n j) j (pth (τ 3) (wBF τ n j) j n i) q := fun q => by
      unfold pgs pgM
      rw [hag 4 (by decide) (by decide)]
      by_cases c : q = 0 ∨ pth (τ 3) (wBF τ n j) j n i q = j
      · rw [if_pos c, if_pos c]
      · rw [if_neg c, if_neg c]
        exact (h.sn (pth_lt hj hi q)).2.2.1
    have hs : bx_sum (pgM (fnS σ n j) j (pth (τ 3) (wBF τ n j) j n i)) (hh + 1) = wcost τ n i j hh := sum_eq _ (fun q _ => (hpg q).symm)
    refine Or.inr ⟨hh, pth (τ 3) (wBF τ n j) j n i, hw, ?_, fun h' w' => ?_, ?_, a6, fun _ => rfl, hpg, hs, ?_⟩
    · rintro (z | z)
      · exact a1 z
      · exact z hh a2 a5
    · rcases Nat.lt_trichotomy h' hh with z | z | z
      · exact absurd w'.2.2.2 (a4 h' z)
      · exact z
      · exact absurd a5 (w'.2.2.1 hh z)
    · exact Int32.not_le.mpr a3
    · obtain ⟨c, c1, c2⟩ := sum_small (f := pgs (τ 3) (wBF τ n j) j n i) (hh + 1) (fun q _ => by
        unfold pgs
        by_cases c : q = 0 ∨ pth (τ 3) (wBF τ n j) j n i q = j
        · rw [if_pos c]; exact ⟨0, by omega, rfl⟩
        · rw [if_neg c]
          obtain ⟨_, _, b2, _, _, _, _, _, _, ⟨p, p1, p2⟩, _⟩ := h.sn (pth_lt (nd := τ 3) (b := wBF τ n j) hj hi q)
          exact ⟨p, p1, b2.trans p2⟩)
      exact ⟨c, by omega, c2⟩
end Simul
