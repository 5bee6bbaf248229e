/-! ===== messages, all of it together; a message moves ===== -/
section PaA
variable {τ τ' : T3}
theorem paA_step {x : Int32} {i : Nat} (h6 : ∀ q, q ≠ i → τ' 6 q = τ 6 q) (h8 : τ' 8 = τ 8) (h9 : τ' 9 = τ 9) (h0 : τ 6 i 0 = 0) (h1 : ¬ τ' 6 i 0 = 0) : ∀ M, (M ≤ i → paA τ' x M = paA τ x M) ∧ (i < M → paA τ' x M = paA τ x M + rpS (τ 8 i) (τ 9 i) x (ix (τ' 6 i 2)))
  | 0 => ⟨fun _ => rfl, fun z => by omega⟩
  | M + 1 => by
    obtain ⟨p1, p2⟩ := paA_step h6 h8 h9 h0 h1 M
    have eT : paA τ' x (M + 1) = if τ' 6 M 0 = 0 then paA τ' x M else paA τ' x M + rpS (τ' 8 M) (τ' 9 M) x (ix (τ' 6 M 2)) := rfl
    have eO : paA τ x (M + 1) = if τ 6 M 0 = 0 then paA τ x M else paA τ x M + rpS (τ 8 M) (τ 9 M) x (ix (τ 6 M 2)) := rfl
    rw [eT, eO, h8, h9]
    refine ⟨fun z => ?_, fun z => ?_⟩
    · rw [h6 M (by omega), p1 (by omega)]
    · by_cases c : M = i
      · subst c
        rw [if_neg h1, if_pos h0, p1 (Nat.le_refl M)]
      · rw [h6 M c, p2 (by omega)]
        by_cases d : τ 6 M 0 = 0
        · rw [if_pos d, if_pos d]
        · rw [if_neg d, if_neg d, Int32.add_assoc, Int32.add_assoc, Int32.add_comm (rpS (τ 8 i) (τ 9 i) x _)]
theorem paA_on {x : Int32} {i : Nat} (h6 : ∀ q, q ≠ i → τ' 6 q = τ 6 q) (h8 : τ' 8 = τ 8) (h9 : τ' 9 = τ 9) (h0 : τ 6 i 0 = 0) (h1 : τ' 6 i 0 = 0) : ∀ M, paA τ' x M = paA τ x M
  | 0 => rfl
  | M + 1 => by
    have p := paA_on h6 h8 h9 h0 h1 M (x := x)
    show (if τ' 6 M 0 = 0 then paA τ' x M else paA τ' x M + rpS (τ' 8 M) (τ' 9 M) x (ix (τ' 6 M 2))) = if τ 6 M 0 = 0 then paA τ x M else paA τ x M + rpS (τ 8 M) (τ 9 M) x (ix (τ 6 M 2))
    rw [p, h8, h9]
    by_cases c : M = i
    · subst c; rw [if_pos h1, if_pos h0]
    · rw [h6 M c]
end PaA
/-- one message -/
def MSI (f6 f7 f8 f9 : Nat → Int32) (n : Nat) : Prop := ∃ (hh pl : Nat) (g : Nat → Nat), (1 ≤ hh ∧ hh ≤ 11 ∧ f7 0 = nI hh ∧ f6 1 = nI pl) ∧
  (∀ q, q ≤ hh → ∃ x, x < n ∧ f8 q = nI x) ∧ (∀ q r, q < r → r ≤ hh → f8 q ≠ f8 r) ∧ (∀ q, q ≤ hh → g q ≤ 50 ∧ f9 q = nI (g q)) ∧ f7 1 = nI (psum g (hh - 1)) ∧
  ((f6 0 = 0 ∧ pl < hh ∧ f6 2 = nI pl ∧ f6 3 = 0 ∧ f6 4 = 0) ∨ (f6 0 = 1 ∧ pl = hh ∧ f6 2 = nI (pl - 1) ∧ f6 3 = 0 ∧ f6 4 = 0) ∨
   (f6 0 = 2 ∧ 1 ≤ pl ∧ pl < hh ∧ f6 2 = nI (pl - 1) ∧ ∃ bk fs, f6 3 = nI bk ∧ f6 4 = nI fs ∧ bk + fs ≤ psum g (hh - 1)))
/-- what is in a message on its way -/
def wm (τ : T3) (j : Nat) : Nat := if τ 6 j 0 = 0 then ix (τ 7 j 1) else 0
def recN (τ : T3) (n : Nat) : Int32 := bx_sum (fun i => τ 3 i 7) n
def recM (τ : T3) (m : Nat) : Int32 := bx_sum (fun j => τ 6 j 2) m
/-- ALL OF IT: n nodes, m messages, tick t, money mo -/
def INV (n m t : Nat) (τ : T3) (mo : Nat) : Prop :=
  (n ≤ 12 ∧ m ≤ 60 ∧ mo ≤ 20000) ∧ τ 0 0 0 = nI t ∧ (∀ i, i < n → NDI (τ 3 i) t) ∧ (∀ j, j < m → MSI (τ 6 j) (τ 7 j) (τ 8 j) (τ 9 j) n) ∧ nsum (wl τ) n + nsum (wm τ) m = mo ∧ recN τ n = recM τ m ∧
  (∀ x, x < n → τ 3 x 6 = paA τ (nI x) m) ∧ (∀ i j, i < n → j < n → (lnkB (τ 3 i 9) j = true ↔ lnkB (τ 3 j 9) i = true)) ∧ ∀ r, r < 11 → τ 16 0 r = -1 ∨ ∃ z, z < n ∧ τ 16 0 r = nI z
section Invs
variable {n m t mo A : Nat} {τ τ' : T3}
theorem INV.n12 (h : INV n m t τ mo) : n ≤ 12 := h.1.1
theorem INV.m60 (h : INV n m t τ mo) : m ≤ 60 := h.1.2.1
theorem INV.mo2 (h : INV n m t τ mo) : mo ≤ 20000 := h.1.2.2
theorem INV.tk (h : INV n m t τ mo) : τ 0 0 0 = nI t := h.2.1
theorem INV.nd (h : INV n m t τ mo) {i : Nat} (hi : i < n) : NDI (τ 3 i) t := h.2.2.1 i hi
theorem INV.ms (h : INV n m t τ mo) {j : Nat} (hj : j < m) : MSI (τ 6 j) (τ 7 j) (τ 8 j) (τ 9 j) n := h.2.2.2.1 j hj
theorem INV.mon (h : INV n m t τ mo) : nsum (wl τ) n + nsum (wm τ) m = mo := h.2.2.2.2.1
theorem INV.rec (h : INV n m t τ mo) : recN τ n = recM τ m := h.2.2.2.2.2.1
theorem INV.got (h : INV n m t τ mo) {x : Nat} (hx : x < n) : τ 3 x 6 = paA τ (nI x) m := h.2.2.2.2.2.2.1 x hx
theorem INV.sym (h : INV n m t τ mo) {i j : Nat} (hi : i < n) (hj : j < n) : lnkB (τ 3 i 9) j = true ↔ lnkB (τ 3 j 9) i = true := h.2.2.2.2.2.2.2.1 i j hi hj
theorem INV.tn (h : INV n m t τ mo) : ∀ r, r < 11 → τ 16 0 r = -1 ∨ ∃ z, z < n ∧ τ 16 0 r = nI z := h.2.2.2.2.2.2.2.2
theorem INV.nb (h : INV n m t τ mo) : NB n t τ (nsum (wl τ) n) := ⟨h.2.2.1, rfl⟩
theorem INV.cost (h : INV n m t τ mo) {j : Nat} (hj : j < m) : ∃ c, c ≤ 550 ∧ τ 7 j 1 = nI c := by
  obtain ⟨hh, pl, g, ⟨a1, a2, -, -⟩, -, -, a3, a4, -⟩ := h.ms hj
  exact ⟨_, by have := psum_b (g := g) (hh - 1) (fun q hq => (a3 q (by omega)).1); omega, a4⟩
theorem paA_cong {x : Int32} : ∀ (m : Nat), (∀ i, i < m → τ' 6 i = τ 6 i ∧ τ' 8 i = τ 8 i ∧ τ' 9 i = τ 9 i) → paA τ' x m = paA τ x m
  | 0, _ => rfl
  | m + 1, h => by
    obtain ⟨h1, h2, h3⟩ := h m (by omega)
    show (if τ' 6 m 0 = 0 then paA τ' x m else paA τ' x m + rpS (τ' 8 m) (τ' 9 m) x (ix (τ' 6 m 2))) = if τ 6 m 0 = 0 then paA τ x m else paA τ x m + rpS (τ 8 m) (τ 9 m) x (ix (τ 6 m 2))
    rw [h1, h2, h3, paA_cong m (fun i hi => h i (by omega))]
/-- the nodes change, their money as a whole doesn't -/
theorem INV.nds (h : INV n m t τ mo) (hB : NB n t τ' (nsum (wl τ) n)) (k6 : kq 6 τ' τ) (k7 : kq 7 τ' τ) (k9 : kq 9 τ' τ) (hr : ∀ k, k = 0 ∨ k = 6 ∨ k = 7 ∨ k = 8 ∨ k = 9 ∨ k = 16 → τ' k = τ k) : INV n m t τ' mo := by
  have r0 := hr 0 (by decide)
  have r6 := hr 6 (by decide)
  have r7 := hr 7 (by decide)
  have r8 := hr 8 (by decide)
  have r9 := hr 9 (by decide)
  have r16 := hr 16 (by decide)
  refine ⟨h.1, by rw [r0]; exact h.tk, hB.1, fun j hj => by rw [r6, r7, r8, r9]; exact h.ms hj, ?_, ?_, fun x hx => ?_, fun i j hi hj => by rw [k9, k9]; exact h.sym hi hj, fun r hr => by rw [r16]; exact h.tn r hr⟩
  · rw [hB.2, nsum_cong (f := wm τ) m (fun k _ => by unfold wm; rw [r6, r7])]
    exact h.mon
  · have e1 : recN τ' n = recN τ n := sum_eq n (fun q _ => k7 q)
    have e2 : recM τ' m = recM τ m := sum_eq m (fun q _ => by show τ' 6 q 2 = τ 6 q 2; rw [r6])
    rw [e1, e2]; exact h.rec
  · rw [k6, h.got hx]
    exact (paA_cong m (fun i _ => by rw [r6, r8, r9]; exact ⟨rfl, rfl, rfl⟩)).symm
/-- one message that is on its way goes on -/
theorem INV.msg (h : INV n m t τ mo) {i : Nat} (hi : i < m) {A' : Nat} (hB : NB n t τ' A') (hA : A' + wm τ' i = nsum (wl τ) n + wm τ i) (hr : ∀ k, k ≠ 3 → k ≠ 6 → τ' k = τ k) (h6 : ∀ y, y ≠ i → τ' 6 y = τ 6 y) (hM : MSI (τ' 6 i) (τ 7 i) (τ 8 i) (τ 9 i) n) (k9 : kq 9 τ' τ) (hrec : recN τ' n = recM τ' m) (hG : ∀ x, x < n → τ' 3 x 6 = paA τ' (nI x) m) : INV n m t τ' mo := by
  have r0 := hr 0 (by decide) (by decide)
  have r7 := hr 7 (by decide) (by decide)
  have r8 := hr 8 (by decide) (by decide)
  have r9 := hr 9 (by decide) (by decide)
  have r16 := hr 16 (by decide) (by decide)
  refine ⟨h.1, by rw [r0]; exact h.tk, hB.1, fun j hj => ?_, ?_, hrec, hG, fun i j hi hj => by rw [k9, k9]; exact h.sym hi hj, fun r hr => by rw [r16]; exact h.tn r hr⟩
  · rw [r7, r8, r9]
    by_cases c : j = i
    · subst c; exact hM
    · rw [h6 j c]; exact h.ms hj
  · rw [hB.2]
    have := nsum_one (f := wm τ) (g := wm τ') (x := i) (a := wm τ i) (b := wm τ' i) (fun k hk => by unfold wm; rw [h6 k hk, r7]) (by omega) m hi
    have := h.mon
    omega
theorem INV.way (h : INV n m t τ mo) {i : Nat} (hi : i < m) (h0 : τ 6 i 0 = 0) : ∃ (hh pl : Nat) (g : Nat → Nat), (1 ≤ hh ∧ hh ≤ 11 ∧ pl < hh) ∧ WM τ n i hh pl ∧ τ 6 i 1 = nI pl ∧ (∀ q r, q < r → r ≤ hh → τ 8 i q ≠ τ 8 i r) ∧ (∀ q, q ≤ hh → g q ≤ 50 ∧ τ 9 i q = nI (g q)) ∧ τ 7 i 1 = nI (psum g (hh - 1)) ∧ τ 6 i 3 = 0 ∧ τ 6 i 4 = 0 := by
  obtain ⟨hh, pl, g, ⟨a1, a2, a3, a4⟩, a5, a6, a7, a8, a9⟩ := h.ms hi
  rcases a9 with ⟨b1, b2, b3, b4, b5⟩ | b | b
  · exact ⟨hh, pl, g, ⟨a1, a2, b2⟩, ⟨a3, a2, b3, by omega, a5⟩, a4, a6, a7, a8, b4, b5⟩
  · rw [b.1] at h0; exact absurd h0 (by decide)
  · rw [b.1] at h0; exact absurd h0 (by decide)
theorem INV.WO (h : INV n m t τ mo) {i : Nat} (hi : i < m) (h0 : τ 6 i 0 = 0) : WO τ n i := by
  obtain ⟨hh, pl, g, ⟨a1, a2, a3⟩, a4, a5, -⟩ := h.way hi h0
  exact ⟨hh, pl, pl, a4, a5, a3, Nat.le_refl _⟩
theorem INV.WMs (h : INV n m t τ mo) {i : Nat} (hi : i < m) : WMs τ i := by
  obtain ⟨hh, pl, g, ⟨a1, a2, a3, a4⟩, a5, a6, a7, a8, a9⟩ := h.ms hi
  rcases a9 with ⟨b1, b2, b3, b4, b5⟩ | ⟨b1, b2, b3, _⟩ | ⟨b1, b2, b3, b4, _⟩
  · exact ⟨hh, pl, a3, a2, b3, by omega⟩
  · exact ⟨hh, pl - 1, a3, a2, b3, by omega⟩
  · exact ⟨hh, pl - 1, a3, a2, b4, by omega⟩
theorem payT_6 {i r y : Nat} (hy : y < n) : payT τ n i r 3 y 6 = τ 3 y 6 + rpS (τ 8 i) (τ 9 i) (nI y) r := by
  unfold payT
  rw [if_pos ⟨rfl, hy⟩, upd_s]
theorem lm_min {a b : Nat} (ha : a ≤ 100000) (hb : b ≤ 100000) : ∃ c, c ≤ a ∧ c ≤ b ∧ lm (nI a) (nI b) = nI c := by
  unfold lm
  by_cases c : a < b
  · rw [if_pos (nI_lt c (by omega))]; exact ⟨a, Nat.le_refl _, by omega, rfl⟩
  · rw [if_neg (nI_nlt (by omega) (by omega))]; exact ⟨b, by omega, Nat.le_refl _, rfl⟩
/-- a message that is lost -/
theorem NB.los (h : NB n t τ A) (hn : n ≤ 12) {i rc x s cost : Nat} {g : Nat → Nat} (hx : x < n) (hs : s < n) (hq : ∀ q, 1 ≤ q → q ≤ rc → (∃ x, x < n ∧ τ 8 i q = nI x) ∧ τ 9 i q = nI (g q)) (hc : τ 7 i 1 = nI cost) (hle : psum g rc ≤ cost) (hA : A + cost ≤ 20000) :
    ∃ fs, fs ≤ psum g rc ∧ NB n t (losT τ n i rc x s) (A + cost) ∧ losT τ n i rc x s 6 i = upd (upd (upd (τ 6 i) 0 2) 3 (nI (cost - psum g rc))) 4 (nI fs) ∧ (∀ k, k = 2 ∨ k = 4 ∨ k = 5 ∨ k = 7 ∨ k = 9 → kq k (losT τ n i rc x s) τ) ∧ ∀ y, y < n → losT τ n i rc x s 3 y 6 = τ 3 y 6 + rpS (τ 8 i) (τ 9 i) (nI y) rc := by
  have hp : payS (τ 9 i) rc = nI (psum g rc) := payS_n rc (fun q a b => (hq q a b).2)
  obtain ⟨T2, hT2⟩ : ∃ T, T = payT (mset τ i 0 2) n i rc := ⟨_, rfl⟩
  obtain ⟨b, hb⟩ : ∃ b, b = τ 7 i 1 - payS (τ 9 i) rc := ⟨_, rfl⟩
  obtain ⟨tk, htk⟩ : ∃ k, k = lm (payS (τ 9 i) rc) (T2 3 x 1) := ⟨_, rfl⟩
  obtain ⟨T4, hT4⟩ : ∃ T, T = tset (mset T2 i 3 b) 3 x (upd (T2 3 x) 1 (T2 3 x 1 - tk)) := ⟨_, rfl⟩
  obtain ⟨T5, hT5⟩ : ∃ T, T = tset T4 6 i (upd (upd (T2 6 i) 3 b) 4 tk) := ⟨_, rfl⟩
  obtain ⟨T6, hT6⟩ : ∃ T, T = tset T5 3 s (upd (T5 3 s) 0 (T5 3 s 0 + (b + tk))) := ⟨_, rfl⟩
  have hL : losT τ n i rc x s = tset T6 3 x (upd (T6 3 x) 3 (low (T6 3 x 3) 20)) := by
    subst hT6 hT5 hT4 htk hb hT2
    rfl
  have B0 : NB n t (mset τ i 0 2) A := h.cong (tset_row (by decide))
  have B2 : NB n t T2 (A + psum g rc) := by
    rw [hT2]
    exact B0.pays hn rc (fun q a b => by rw [mset_k (by decide), mset_k (by decide)]; exact hq q a b) (by omega)
  have hn2 := nn_ix (B2.nd hx).2.1
  obtain ⟨fs, f1, f2, f3⟩ := lm_min (a := psum g rc) (b := ix (T2 3 x 1)) (by omega) hn2.2
  have etk : tk = nI fs := by rw [htk, hp, hn2.1]; exact f3
  have eb : b = nI (cost - psum g rc) := by rw [hb, hc, hp, pk_sub hle]
  have e3 : mset T2 i 3 b 3 = T2 3 := tset_row (by decide)
  have B3 : NB n t (mset T2 i 3 b) (A + psum g rc) := B2.cong e3
  have B4 : NB n t T4 (A + psum g rc - fs) := by
    rw [hT4, etk, ← e3]
    exact B3.stk hx (by omega) (by rw [e3]; exact f2)
  have B5 : NB n t T5 (A + psum g rc - fs) := by rw [hT5]; exact B4.cong (tset_row (by decide))
  have B6 : NB n t T6 (A + cost) := by
    have := B5.pur (x := s) (v := cost - psum g rc + fs) hs (by omega)
    rw [hT6, eb, etk, nI_add]
    rwa [show A + psum g rc - fs + (cost - psum g rc + fs) = A + cost by omega] at this
  obtain ⟨q, q1, q2⟩ := (B6.nd hx).2.2.2.1
  refine ⟨fs, f1, ?_, ?_, fun k hk => ?_, fun y hy => ?_⟩
  · rw [hL, q2, show (20 : Int32) = nI 20 from rfl, low_small q1 (by decide)]
    exact B6.tru hx (by omega)
  · rw [hL, tset_k (by decide), hT6, tset_k (by decide), hT5, tset_s, hT2, payT_k (by decide), mset_s, eb, etk]
  · have c1 : kq k (losT τ n i rc x s) T6 := by rw [hL]; exact kq_set rfl (by omega)
    have c2 : kq k T6 T5 := by rw [hT6]; exact kq_set rfl (by omega)
    have c3 : kq k T5 T4 := by rw [hT5]; exact kq_row (tset_row (by decide))
    have c4 : kq k T4 (mset T2 i 3 b) := by rw [hT4]; exact kq_set (by rw [e3]) (by omega)
    have c5 : kq k (mset T2 i 3 b) T2 := kq_row e3
    have c6 : kq k T2 (mset τ i 0 2) := by rw [hT2]; exact kq_pay (by omega) (by omega)
    have c7 : kq k (mset τ i 0 2) τ := kq_row (tset_row (by decide))
    exact c1.trans (c2.trans (c3.trans (c4.trans (c5.trans (c6.trans c7)))))
  · have c1 : kq 6 (losT τ n i rc x s) T6 := by rw [hL]; exact kq_set rfl (by omega)
    have c2 : kq 6 T6 T5 := by rw [hT6]; exact kq_set rfl (by omega)
    have c3 : kq 6 T5 T4 := by rw [hT5]; exact kq_row (tset_row (by decide))
    have c4 : kq 6 T4 (mset T2 i 3 b) := by rw [hT4]; exact kq_set (by rw [e3]) (by omega)
    have c5 : kq 6 (mset T2 i 3 b) T2 := kq_row e3
    rw [c1.trans (c2.trans (c3.trans (c4.trans c5))) y, hT2, payT_6 hy, mset_k (by decide), mset_k (by decide), mset_k (by decide)]
/-- what a tick does to a message on its way -/
def MVD (τ' τ : T3) (i : Nat) : Prop := ∃ pl, pl ≤ 11 ∧ τ 6 i 2 = nI pl ∧ τ' 6 i 1 = nI (pl + 1) ∧ ((τ' 6 i 0 = 0 ∧ τ' 6 i 2 = nI (pl + 1)) ∨ (τ' 6 i 0 ≠ 0 ∧ τ' 6 i 2 = nI pl))
/-- prices, how, till when and links of the nodes stay -/
def kp (τ' τ : T3) : Prop := ∀ k, k = 2 ∨ k = 4 ∨ k = 5 ∨ k = 9 → kq k τ' τ
theorem INV.move (h : INV n m t τ mo) {i : Nat} (hi : i < m) (h0 : τ 6 i 0 = 0) : INV n m t (moT τ n i) mo ∧ kp (moT τ n i) τ ∧ MVD (moT τ n i) τ i := by
  obtain ⟨hh, pl, g, ⟨a1, a2, a3⟩, hW, a5, a6, a7, a8, b3, b4⟩ := h.way hi h0
  have hn12 := h.n12
  have hmo := h.mo2
  have hmon := h.mon
  obtain ⟨w1, w2, w3, w4, w5⟩ := id hW
  have hcb := psum_b (g := g) (hh - 1) (fun q hq => (a7 q (by omega)).1)
  have hwm : wm τ i = psum g (hh - 1) := by
    unfold wm
    rw [if_pos h0, a8, ix_nI (by omega)]
  have hwl := nsum_ge (f := wm τ) m hi
  have hr : ∀ k, k ≠ 3 → k ≠ 6 → moT τ n i k = τ k := fun k h3 h6 => funext fun y => moT_k h3 (fun z => h6 z.1)
  have h6 : ∀ y, y ≠ i → moT τ n i 6 y = τ 6 y := fun y hy => moT_k (by decide) (fun z => hy z.2)
  have h8 : moT τ n i 8 = τ 8 := hr 8 (by decide) (by decide)
  have h9 : moT τ n i 9 = τ 9 := hr 9 (by decide) (by decide)
  have hprice : ∀ q, 1 ≤ q → q ≤ pl → (∃ x, x < n ∧ τ 8 i q = nI x) ∧ τ 9 i q = nI (g q) := fun q z1 z2 => ⟨w5 q (by omega), (a7 q (by omega)).2⟩
  have recs : (kq 7 (moT τ n i) τ) → moT τ n i 6 i 2 = τ 6 i 2 → recN (moT τ n i) n = recM (moT τ n i) m := fun k7 e2 => by
    have e1 : recN (moT τ n i) n = recN τ n := sum_eq n (fun q _ => k7 q)
    have e2 : recM (moT τ n i) m = recM τ m := sum_eq m (fun q _ => by
      show moT τ n i 6 q 2 = τ 6 q 2
      by_cases c : q = i
      · subst c; exact e2
      · rw [h6 q c])
    rw [e1, e2]; exact h.rec
  by_cases c : pl + 1 < hh
  · obtain ⟨x, hx, ex⟩ := w5 (pl + 1) (by omega)
    obtain ⟨ls, l1, l2⟩ := (h.nd hx).2.2.2.2.1
    by_cases cl : 0 < ls
    · -- lost
      obtain ⟨s, hs, es⟩ := w5 0 (by omega)
      have e := moT_los hn12 hW a5 a3 (nI_lt c (by omega)) hx ex (by rw [l2]; exact nI_lt (a := 0) cl (by omega))
      rw [es, ix_nI (by omega)] at e
      obtain ⟨τb, hτb⟩ : ∃ T, T = tset (mset τ i 1 (nI (pl + 1))) 3 x (upd (τ 3 x) 8 (τ 3 x 8 - 1)) := ⟨_, rfl⟩
      rw [← hτb] at e
      have m3 : mset τ i 1 (nI (pl + 1)) 3 = τ 3 := tset_row (by decide)
      have Bm : NB n t (mset τ i 1 (nI (pl + 1))) (nsum (wl τ) n) := h.nb.cong m3
      have Bb : NB n t τb (nsum (wl τ) n) := by
        rw [hτb]
        refine Bm.same hx ?_ (by rw [m3]; exact upd_n (by decide)) (by rw [m3]; exact upd_n (by decide))
        rw [l2, show nI ls - 1 = nI (ls - 1) from by rw [show (1 : Int32) = nI 1 from rfl, pk_sub (by omega)]]
        exact (h.nd hx).loss (by omega)
      have kb : ∀ k, k ≠ 3 → k ≠ 6 → τb k = τ k := fun k z1 z2 => by rw [hτb, tset_row z1]; exact tset_row z2
      have k8 := kb 8 (by decide) (by decide)
      have k9 := kb 9 (by decide) (by decide)
      have b6 : τb 6 i = upd (τ 6 i) 1 (nI (pl + 1)) := by rw [hτb, tset_k (by decide), mset_s]
      have kqb : ∀ k, k ≠ 8 → kq k τb τ := fun k hk => by
        rw [hτb]
        exact (kq_set (by rw [m3]) hk).trans (kq_row m3)
      obtain ⟨fs, f1, B, f6, fk, fg⟩ := Bb.los hn12 (i := i) (rc := pl) (x := x) (s := s) (cost := psum g (hh - 1)) (g := g) hx hs (fun q z1 z2 => by rw [k8, k9]; exact hprice q z1 z2) (by rw [kb 7 (by decide) (by decide)]; exact a8) (psum_le (by omega)) (by omega)
      rw [← e] at B f6 fk fg
      rw [b6] at f6
      have v0 : moT τ n i 6 i 0 = 2 := by rw [f6]; simp [upd]
      have v1 : moT τ n i 6 i 1 = nI (pl + 1) := by rw [f6]; simp [upd]
      have v2 : moT τ n i 6 i 2 = τ 6 i 2 := by rw [f6]; simp [upd]
      have v3 : moT τ n i 6 i 3 = nI (psum g (hh - 1) - psum g pl) := by rw [f6]; simp [upd]
      have v4 : moT τ n i 6 i 4 = nI fs := by rw [f6]; simp [upd]
      have hne : ¬ moT τ n i 6 i 0 = 0 := by rw [v0]; decide
      have hpl := psum_le (g := g) (r := pl) (k := hh - 1) (by omega)
      refine ⟨h.msg hi B ?_ hr h6 ?_ ((fk 9 (by decide)).trans (kqb 9 (by decide))) (recs ((fk 7 (by decide)).trans (kqb 7 (by decide))) v2) (fun y hy => ?_), fun k hk => (fk k (by omega)).trans (kqb k (by omega)), pl, by omega, w3, v1, Or.inr ⟨hne, by rw [v2, w3]⟩⟩
      · rw [hwm]
        unfold wm
        rw [if_neg hne]
        omega
      · exact ⟨hh, pl + 1, g, ⟨a1, a2, w1, v1⟩, w5, a6, a7, a8, Or.inr (Or.inr ⟨v0, by omega, c, by rw [v2, w3]; rfl, _, fs, v3, v4, by omega⟩)⟩
      · have := ((paA_step (x := nI y) h6 h8 h9 h0 hne) m).2 hi
        rw [fg y hy, this, v2, w3, ix_nI (by omega), k8, k9, kqb 6 (by decide) y, h.got hy]
    · -- a receipt
      have e := moT_on hn12 hW a5 a3 (nI_lt c (by omega)) hx ex (by rw [l2, show ls = 0 by omega]; decide)
      have m3 : ∀ f, tset τ 6 i f 3 = τ 3 := fun f => tset_row (by decide)
      have e6 : moT τ n i 6 i = upd (upd (τ 6 i) 1 (nI (pl + 1))) 2 (nI pl + 1) := by rw [e, tset_k (by decide), tset_s]
      have v0 : moT τ n i 6 i 0 = 0 := by rw [e6]; simp [upd, h0]
      have v1 : moT τ n i 6 i 1 = nI (pl + 1) := by rw [e6]; simp [upd]
      have v2 : moT τ n i 6 i 2 = nI pl + 1 := by rw [e6]; simp [upd]
      have v3 : moT τ n i 6 i 3 = 0 := by rw [e6]; simp [upd, b3]
      have v4 : moT τ n i 6 i 4 = 0 := by rw [e6]; simp [upd, b4]
      have B : NB n t (moT τ n i) (nsum (wl τ) n) := by
        rw [e]
        exact (h.nb.cong (m3 _)).same hx ((h.nd hx).rec _) (by rw [m3]; exact upd_n (by decide)) (by rw [m3]; exact upd_n (by decide))
      have kk : ∀ k, k ≠ 7 → kq k (moT τ n i) τ := fun k hk => by
        rw [e]
        exact (kq_set (by rw [m3]) hk).trans (kq_row (m3 _))
      refine ⟨h.msg hi B ?_ hr h6 ?_ (kk 9 (by decide)) ?_ (fun y hy => ?_), fun k hk => kk k (by omega), pl, by omega, w3, v1, Or.inl ⟨v0, v2.trans (nI_1 pl)⟩⟩
      · unfold wm
        rw [if_pos v0, if_pos h0, hr 7 (by decide) (by decide)]
      · exact ⟨hh, pl + 1, g, ⟨a1, a2, w1, v1⟩, w5, a6, a7, a8, Or.inl ⟨v0, c, v2.trans (nI_1 pl), v3, v4⟩⟩
      · have e1 : recN (moT τ n i) n = recN τ n + 1 := bsum_one (x := x) (fun k hk => by
          show moT τ n i 3 k 7 = τ 3 k 7
          rw [e, tset_n (fun z => hk z.2), m3]) (by show moT τ n i 3 x 7 = τ 3 x 7 + 1; rw [e, tset_s, upd_s]) n hx
        have e2 : recM (moT τ n i) m = recM τ m + 1 := bsum_one (x := i) (fun k hk => by
          show moT τ n i 6 k 2 = τ 6 k 2
          rw [h6 k hk]) (by show moT τ n i 6 i 2 = τ 6 i 2 + 1; rw [v2, w3]) m hi
        rw [e1, e2, h.rec]
      · rw [kk 6 (by decide) y, h.got hy]
        exact ((paA_on (x := nI y) h6 h8 h9 h0 v0) m).symm
  · -- delivered
    have e := moT_del hW a5 a3 (nI_nlt (by omega) (by omega))
    obtain ⟨τb, hτb⟩ : ∃ T, T = mset (mset τ i 1 (nI (pl + 1))) i 0 1 := ⟨_, rfl⟩
    have e : moT τ n i = traT (payT τb n i pl) n i pl := by rw [e, hτb]; rfl
    have kb : ∀ k, k ≠ 6 → τb k = τ k := fun k z => by rw [hτb, mset_mset]; exact tset_row z
    have k8 := kb 8 (by decide)
    have k9 := kb 9 (by decide)
    have b6 : τb 6 i = upd (upd (τ 6 i) 1 (nI (pl + 1))) 0 1 := by rw [hτb, mset_mset]; exact tset_s
    have Bb : NB n t τb (nsum (wl τ) n) := h.nb.cong (kb 3 (by decide))
    have hpl : psum g pl = psum g (hh - 1) := by rw [show pl = hh - 1 by omega]
    have B : NB n t (moT τ n i) (nsum (wl τ) n + psum g pl) := by
      rw [e]
      refine (Bb.pays hn12 pl (fun q z1 z2 => by rw [k8, k9]; exact hprice q z1 z2) (by omega)).tras hn12 pl (fun q z1 z2 => ?_)
      rw [payT_k (by decide), k8]
      exact (hprice q z1 z2).1
    have e6 : moT τ n i 6 i = upd (upd (τ 6 i) 1 (nI (pl + 1))) 0 1 := by rw [e, traT_k (by decide), payT_k (by decide), b6]
    have v0 : moT τ n i 6 i 0 = 1 := by rw [e6]; simp [upd]
    have v1 : moT τ n i 6 i 1 = nI (pl + 1) := by rw [e6]; simp [upd]
    have v2 : moT τ n i 6 i 2 = τ 6 i 2 := by rw [e6]; simp [upd]
    have v3 : moT τ n i 6 i 3 = 0 := by rw [e6]; simp [upd, b3]
    have v4 : moT τ n i 6 i 4 = 0 := by rw [e6]; simp [upd, b4]
    have hne : ¬ moT τ n i 6 i 0 = 0 := by rw [v0]; decide
    have kk : ∀ k, k ≠ 0 → k ≠ 3 → k ≠ 6 → kq k (moT τ n i) τ := fun k z0 z3 z6 => by
      rw [e]
      exact (kq_tra z3).trans ((kq_pay z0 z6).trans (kq_row (kb 3 (by decide))))
    refine ⟨h.msg hi B ?_ hr h6 ?_ (kk 9 (by decide) (by decide) (by decide)) (recs (kk 7 (by decide) (by decide) (by decide)) v2) (fun y hy => ?_), fun k hk => kk k (by omega) (by omega) (by omega), pl, by omega, w3, v1, Or.inr ⟨hne, by rw [v2, w3]⟩⟩
    · rw [hwm]
      unfold wm
      rw [if_neg hne]
      omega
    · exact ⟨hh, pl + 1, g, ⟨a1, a2, w1, v1⟩, w5, a6, a7, a8, Or.inr (Or.inl ⟨v0, by omega, by rw [v2, w3]; rfl, v3, v4⟩)⟩
    · have := ((paA_step (x := nI y) h6 h8 h9 h0 hne) m).2 hi
      rw [this, v2, w3, ix_nI (by omega), ← h.got hy]
      rw [e, kq_tra (by decide) y, payT_6 hy, k8, k9, kb 3 (by decide)]
end Invs
