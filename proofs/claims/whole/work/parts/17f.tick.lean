/-! ===== a tick ===== -/
theorem SN.set0 {f : Nat → Int32} {σ : SS} {t i : Nat} (h : SN f σ t i) {v w : Int32} (e : v = w) : SN (upd f 0 v) (sset σ 2 (upd (σ 2) i w)) t i := by
  obtain ⟨a0, a1, a2, a3, a4, a6, a7, a8, ah, ap, aq, al, an, ak⟩ := h
  subst e
  exact ⟨by simp [sset, upd, a0], by simp [sset, upd, a1], by simp [sset, upd, a2], by simp [sset, upd, a3], by simp [sset, upd, a4], by simp [sset, upd, a6], by simp [sset, upd, a7], by simp [sset, upd, a8], by simpa [sset, upd] using ah, by simpa [sset, upd] using ap, by simpa [sset, upd] using aq, by simpa [sset, upd] using al, by simpa [sset, upd] using an, fun j hj => by simpa [sset, upd] using ak j hj⟩
theorem SN.set1 {f : Nat → Int32} {σ : SS} {t i : Nat} (h : SN f σ t i) {v w : Int32} (e : v = w) : SN (upd f 1 v) (sset σ 3 (upd (σ 3) i w)) t i := by
  obtain ⟨a0, a1, a2, a3, a4, a6, a7, a8, ah, ap, aq, al, an, ak⟩ := h
  subst e
  exact ⟨by simp [sset, upd, a0], by simp [sset, upd, a1], by simp [sset, upd, a2], by simp [sset, upd, a3], by simp [sset, upd, a4], by simp [sset, upd, a6], by simp [sset, upd, a7], by simp [sset, upd, a8], by simpa [sset, upd] using ah, by simpa [sset, upd] using ap, by simpa [sset, upd] using aq, by simpa [sset, upd] using al, by simpa [sset, upd] using an, fun j hj => by simpa [sset, upd] using ak j hj⟩
theorem SN.set7 {f : Nat → Int32} {σ : SS} {t i : Nat} (h : SN f σ t i) {v w : Int32} (e : v = w) : SN (upd f 7 v) (sset σ 10 (upd (σ 10) i w)) t i := by
  obtain ⟨a0, a1, a2, a3, a4, a6, a7, a8, ah, ap, aq, al, an, ak⟩ := h
  subst e
  exact ⟨by simp [sset, upd, a0], by simp [sset, upd, a1], by simp [sset, upd, a2], by simp [sset, upd, a3], by simp [sset, upd, a4], by simp [sset, upd, a6], by simp [sset, upd, a7], by simp [sset, upd, a8], by simpa [sset, upd] using ah, by simpa [sset, upd] using ap, by simpa [sset, upd] using aq, by simpa [sset, upd] using al, by simpa [sset, upd] using an, fun j hj => by simpa [sset, upd] using ak j hj⟩
theorem SN.set8 {f : Nat → Int32} {σ : SS} {t i : Nat} (h : SN f σ t i) {v w : Int32} (e : v = w) : SN (upd f 8 v) (sset σ 8 (upd (σ 8) i w)) t i := by
  obtain ⟨a0, a1, a2, a3, a4, a6, a7, a8, ah, ap, aq, al, an, ak⟩ := h
  subst e
  exact ⟨by simp [sset, upd, a0], by simp [sset, upd, a1], by simp [sset, upd, a2], by simp [sset, upd, a3], by simp [sset, upd, a4], by simp [sset, upd, a6], by simp [sset, upd, a7], by simp [sset, upd, a8], by simpa [sset, upd] using ah, by simpa [sset, upd] using ap, by simpa [sset, upd] using aq, by simpa [sset, upd] using al, by simpa [sset, upd] using an, fun j hj => by simpa [sset, upd] using ak j hj⟩
theorem SN.set3 {f : Nat → Int32} {σ : SS} {t i : Nat} (h : SN f σ t i) {b : Nat} (hb : b ≤ 100) : SN (upd f 3 (low (f 3) (nI b))) (ltS σ i (nI b)) t i := by
  obtain ⟨a0, a1, a2, a3, a4, a6, a7, a8, ah, ap, aq, al, an, ak⟩ := h
  obtain ⟨q, q1, q2⟩ := aq
  obtain ⟨e1, e2⟩ := low_lt q1 hb
  exact ⟨by simp [ltS, sset, upd, a0], by simp [ltS, sset, upd, a1], by simp [ltS, sset, upd, a2], by simp [ltS, sset, upd, a3, q2, e1, e2], by simp [ltS, sset, upd, a4], by simp [ltS, sset, upd, a6], by simp [ltS, sset, upd, a7], by simp [ltS, sset, upd, a8], by simpa [ltS, sset, upd] using ah, by simpa [ltS, sset, upd] using ap, ⟨q - b, by omega, by simp [ltS, sset, upd, q2, e2]⟩, by simpa [ltS, sset, upd] using al, by simpa [ltS, sset, upd] using an, fun j hj => by simpa [ltS, sset, upd] using ak j hj⟩
theorem lm_small {a b : Nat} (ha : a ≤ 100) (hb : b ≤ 1) : ∃ q, q ≤ 100 ∧ lm (nI a + nI b) 100 = nI q := by
  rw [nI_add]
  unfold lm
  show ∃ q, q ≤ 100 ∧ (if nI (a + b) < nI 100 then nI (a + b) else nI 100) = nI q
  by_cases c : a + b < 100
  · rw [if_pos (nI_lt c (by decide))]; exact ⟨a + b, by omega, rfl⟩
  · rw [if_neg (nI_nlt (by omega) (by omega))]; exact ⟨100, by omega, rfl⟩
theorem trSm_small {f : Nat → Int32} {x : Int32} {q : Nat} (hq : q ≤ 100) : ∀ r, ∃ q', q' ≤ 100 ∧ trSm 1 f x (nI q) r = nI q'
  | 0 => ⟨q, hq, rfl⟩
  | r + 1 => by
    obtain ⟨a, a1, a2⟩ := trSm_small hq r
    show ∃ q', q' ≤ 100 ∧ (if f (r + 1) = x then lm (trSm 1 f x (nI q) r + 1) 100 else trSm 1 f x (nI q) r) = nI q'
    rw [a2]
    by_cases c : f (r + 1) = x
    · rw [if_pos c]; exact lm_small (b := 1) a1 (by omega)
    · rw [if_neg c]; exact ⟨a, a1, rfl⟩
theorem trSm_0 {f : Nat → Int32} {x : Int32} {q : Nat} (hq : q ≤ 100) : ∀ r, trSm 0 f x (nI q) r = nI q
  | 0 => rfl
  | r + 1 => by
    show (if f (r + 1) = x then lm (trSm 0 f x (nI q) r + 0) 100 else trSm 0 f x (nI q) r) = nI q
    rw [trSm_0 hq r, Int32.add_zero]
    by_cases c : f (r + 1) = x
    · rw [if_pos c]
      unfold lm
      by_cases d : q = 100
      · subst d; exact if_neg (by decide)
      · exact if_pos (nI_lt (b := 100) (by omega) (by decide))
    · rw [if_neg c]
theorem trS_eq {f g : Nat → Int32} {x v : Int32} : ∀ r, (∀ q, 1 ≤ q → q ≤ r → f q = g q) → trS f x v r = trSm 1 g x v r
  | 0, _ => rfl
  | r + 1, h => by
    show (if f (r + 1) = x then rai (trS f x v r) else trS f x v r) = if g (r + 1) = x then lm (trSm 1 g x v r + 1) 100 else trSm 1 g x v r
    rw [h (r + 1) (by omega) (by omega), trS_eq r (fun q a b => h q a (by omega))]
    rfl
theorem payS_cong {g g' : Nat → Int32} : ∀ (r : Nat), (∀ q, 1 ≤ q → q ≤ r → g q = g' q) → payS g r = payS g' r
  | 0, _ => rfl
  | r + 1, h => by
    show payS g r + g (r + 1) = payS g' r + g' (r + 1)
    rw [h (r + 1) (by omega) (by omega), payS_cong r (fun q a b => h q a (by omega))]
section Ticks
variable {n m t : Nat} {τ τ' : T3} {σ σ' : SS}
/-- all nodes -/
def NS (n t : Nat) (τ : T3) (σ : SS) : Prop := ∀ y, y < n → SN (τ 3 y) σ t y
theorem NS.one (h : NS n t τ σ) {x : Nat} {f' : Nat → Int32} (hN : SN f' σ' t x) (hk : ∀ k y, y ≠ x → σ' k y = σ k y) (h11 : σ' 11 = σ 11) : NS n t (tset τ 3 x f') σ' := fun y hy => by
  by_cases c : y = x
  · subst c; rw [tset_s]; exact hN
  · rw [tset_n (fun q => c q.2)]
    exact (h y hy).cong (fun k _ _ => hk k y c) (fun j _ => by rw [h11])
theorem NS.rows (h : NS n t τ σ) (hτ : τ' 3 = τ 3) (hσ : ∀ k, k ≤ 11 → σ' k = σ k) : NS n t τ' σ' := fun y hy => by
  rw [hτ]
  exact (h y hy).cong (fun k _ _ => by rw [hσ k (by omega)]) (fun j _ => by rw [hσ 11 (by omega)])
theorem sset_y {σ : SS} {k x k' y : Nat} {v : Int32} (h : y ≠ x) : sset σ k (upd (σ k) x v) k' y = σ k' y := by
  by_cases c : k' = k
  · subst c; rw [sset_s, upd_n h]
  · rw [sset_n c]
theorem pyS_2 {i r y : Nat} {b : Int32} (hy : y < n) : pyS σ n i r b 2 y = σ 2 y + rpS (wN σ i) (wF σ i) (nI y) r := by
  unfold pyS; rw [if_pos hy]; rfl
theorem pyS_9 {i r y : Nat} {b : Int32} (hy : y < n) : pyS σ n i r b 9 y = σ 9 y + rpS (wN σ i) (wF σ i) (nI y) r := by
  unfold pyS; rw [if_pos hy]; rfl
theorem pyS_5 {i r y : Nat} {b : Int32} (hy : y < n) : pyS σ n i r b 5 y = trSm b (wN σ i) (nI y) (σ 5 y) r := by
  unfold pyS; rw [if_pos hy]; rfl
theorem pyS_n {i r y k : Nat} {b : Int32} (hy : n ≤ y) : pyS σ n i r b k y = σ k y := if_neg (by omega)
theorem payT_3 {i r y : Nat} (hy : y < n) : payT τ n i r 3 y = upd (upd (τ 3 y) 0 (τ 3 y 0 + rpS (τ 8 i) (τ 9 i) (nI y) r)) 6 (τ 3 y 6 + rpS (τ 8 i) (τ 9 i) (nI y) r) := if_pos ⟨rfl, hy⟩
theorem traT_3 {i r y : Nat} (hy : y < n) : traT τ n i r 3 y = upd (τ 3 y) 3 (trS (τ 8 i) (nI y) (τ 3 y 3) r) := if_pos ⟨rfl, hy⟩
theorem NS.pay (h : NS n t τ σ) {i r : Nat} (hw : ∀ q, 1 ≤ q → q ≤ r → τ 8 i q = wN σ i q ∧ τ 9 i q = wF σ i q) : NS n t (payT τ n i r) (pyS σ n i r 0) := fun y hy => by
  obtain ⟨a0, a1, a2, a3, a4, a6, a7, a8, ah, ap, aq, al, an, ak⟩ := h y hy
  have eR := rpS_cong (f := τ 8 i) (g := τ 9 i) (f' := wN σ i) (g' := wF σ i) (x := nI y) r hw
  have e5 : pyS σ n i r 0 5 y = σ 5 y := by
    obtain ⟨q, q1, q2⟩ := aq
    rw [pyS_5 hy, q2, trSm_0 q1 r]
  have o : ∀ k, k ≠ 2 → k ≠ 9 → k ≠ 5 → pyS σ n i r 0 k = σ k := fun k z1 z2 z3 => pyS_k ⟨z1, z2, z3⟩
  rw [payT_3 hy, eR]
  unfold SN
  rw [pyS_2 hy, pyS_9 hy, e5, o 3 (by decide) (by decide) (by decide), o 4 (by decide) (by decide) (by decide), o 6 (by decide) (by decide) (by decide), o 7 (by decide) (by decide) (by decide), o 8 (by decide) (by decide) (by decide), o 10 (by decide) (by decide) (by decide), o 11 (by decide) (by decide) (by decide)]
  exact ⟨by simp [upd, a0], by simp [upd, a1], by simp [upd, a2], by simp [upd, a3], by simp [upd, a4], by simp [upd, a6], by simp [upd, a7], by simp [upd, a8], ah, ap, aq, by simpa [upd] using al, by simpa [upd] using an, by simpa [upd] using ak⟩
theorem NS.dlv (h : NS n t τ σ) {i r : Nat} (hw : ∀ q, 1 ≤ q → q ≤ r → τ 8 i q = wN σ i q ∧ τ 9 i q = wF σ i q) : NS n t (traT (payT τ n i r) n i r) (pyS σ n i r 1) := fun y hy => by
  obtain ⟨a0, a1, a2, a3, a4, a6, a7, a8, ah, ap, aq, al, an, ak⟩ := h y hy
  have eR := rpS_cong (f := τ 8 i) (g := τ 9 i) (f' := wN σ i) (g' := wF σ i) (x := nI y) r hw
  have eT : trS (τ 8 i) (nI y) (τ 3 y 3) r = pyS σ n i r 1 5 y := by
    rw [pyS_5 hy, a3]
    exact trS_eq r (fun q z1 z2 => (hw q z1 z2).1)
  have o : ∀ k, k ≠ 2 → k ≠ 9 → k ≠ 5 → pyS σ n i r 1 k = σ k := fun k z1 z2 z3 => pyS_k ⟨z1, z2, z3⟩
  have aq5 : ∃ q, q ≤ 100 ∧ pyS σ n i r 1 5 y = nI q := by
    obtain ⟨q, q1, q2⟩ := aq
    rw [pyS_5 hy, q2]
    exact trSm_small q1 r
  have e8 : payT τ n i r 8 i = τ 8 i := payT_k (by decide)
  have e33 : payT τ n i r 3 y 3 = τ 3 y 3 := by rw [payT_3 hy]; simp [upd]
  rw [traT_3 hy, e8, e33, eT, payT_3 hy, eR]
  unfold SN
  rw [pyS_2 hy, pyS_9 hy, o 3 (by decide) (by decide) (by decide), o 4 (by decide) (by decide) (by decide), o 6 (by decide) (by decide) (by decide), o 7 (by decide) (by decide) (by decide), o 8 (by decide) (by decide) (by decide), o 10 (by decide) (by decide) (by decide), o 11 (by decide) (by decide) (by decide)]
  exact ⟨by simp [upd, a0], by simp [upd, a1], by simp [upd, a2], by simp [upd], by simp [upd, a4], by simp [upd, a6], by simp [upd, a7], by simp [upd, a8], ah, ap, aq5, by simpa [upd] using al, by simpa [upd] using an, by simpa [upd] using ak⟩
theorem paA_step {x : Int32} {i : Nat} (h6 : ∀ q, q ≠ i → τ' 6 q = τ 6 q) (h8 : τ' 8 = τ 8) (h9 : τ' 9 = τ 9) (h0 : τ 6 i 0 = 0) (h1 : ¬ τ' 6 i 0 = 0) : ∀ M, (M ≤ i → paA τ' x M = paA τ x M) ∧ (i < M → paA τ' x M = paA τ x M + rpS (τ 8 i) (τ 9 i) x (ix (τ' 6 i 2)))
  | 0 => ⟨fun _ => rfl, fun z => by omega⟩
  | M + 1 => by
    obtain ⟨p1, p2⟩ := paA_step h6 h8 h9 h0 h1 M
    have eT : paA τ' x (M + 1) = if τ' 6 M 0 = 0 then paA τ' x M else paA τ' x M + rpS (τ' 8 M) (τ' 9 M) x (ix (τ' 6 M 2)) := rfl
    have eO : paA τ x (M + 1) = if τ 6 M 0 = 0 then paA τ x M else paA τ x M + rpS (τ 8 M) (τ 9 M) x (ix (τ 6 M 2)) := rfl
    rw [eT, eO, h8, h9]
    refine ⟨fun z => ?_, fun z => ?_⟩
    · rw [h6 M (by omega), p1 (by omega)]
    · by_cases c : M = i
      · subst c
        rw [if_neg h1, if_pos h0, p1 (Nat.le_refl M)]
      · rw [h6 M c, p2 (by omega)]
        by_cases d : τ 6 M 0 = 0
        · rw [if_pos d, if_pos d]
        · rw [if_neg d, if_neg d, Int32.add_assoc, Int32.add_assoc, Int32.add_comm (rpS (τ 8 i) (τ 9 i) x _)]
theorem paA_on {x : Int32} {i : Nat} (h6 : ∀ q, q ≠ i → τ' 6 q = τ 6 q) (h8 : τ' 8 = τ 8) (h9 : τ' 9 = τ 9) (h0 : τ 6 i 0 = 0) (h1 : τ' 6 i 0 = 0) : ∀ M, paA τ' x M = paA τ x M
  | 0 => rfl
  | M + 1 => by
    have p := paA_on h6 h8 h9 h0 h1 M (x := x)
    show (if τ' 6 M 0 = 0 then paA τ' x M else paA τ' x M + rpS (τ' 8 M) (τ' 9 M) x (ix (τ' 6 M 2))) = if τ 6 M 0 = 0 then paA τ x M else paA τ x M + rpS (τ 8 M) (τ 9 M) x (ix (τ 6 M 2))
    rw [p, h8, h9]
    by_cases c : M = i
    · subst c; rw [if_pos h1, if_pos h0]
    · rw [h6 M c]
/-- a message moves: what has to be shown -/
theorem Sim.mv (h : Sim n m t τ σ) {i : Nat} (hN : NS n t τ' σ') (hM : SM (τ' 6 i) (τ 7 i) (τ 8 i) (τ 9 i) σ' n i) (t1 : ∀ k, k ≠ 3 → k ≠ 6 → τ' k = τ k) (t6 : ∀ y, y ≠ i → τ' 6 y = τ 6 y) (s1 : ∀ k, k = 6 ∨ k = 11 ∨ k = 14 ∨ k = 16 ∨ (18 < k ∧ k < 24) → σ' k = σ k) (s2 : ∀ k, k = 8 ∨ k = 9 ∨ k = 10 → ∀ y, n ≤ y → σ' k y = σ k y) (s3 : ∀ k, k = 13 ∨ k = 15 ∨ k = 17 ∨ k = 18 → ∀ y, y ≠ i → σ' k y = σ k y) (hi : i < m) (hG : ∀ x, x < n → σ' 9 x = paA τ' (nI x) m) : Sim n m t τ' σ' := by
  refine ⟨h.1, hN, fun y h1 h2 => ?_, fun y hy => ?_, fun y hy => ?_, ?_, hG⟩
  · rw [s1 6 (by omega), s1 11 (by omega), s2 8 (by omega) y h1, s2 9 (by omega) y h1, s2 10 (by omega) y h1]
    exact h.se y h1 h2
  · rw [t1 7 (by decide) (by decide), t1 8 (by decide) (by decide), t1 9 (by decide) (by decide)]
    by_cases c : y = i
    · subst c; exact hM
    · rw [t6 y c]
      refine (h.sm hy).cong (Nat.le_refl _) (fun k k1 k2 => ?_) (fun j _ => by rw [s1 19 (by omega)]) (fun j _ => by rw [s1 20 (by omega)])
      by_cases d : k = 14 ∨ k = 16
      · rw [s1 k (by omega)]
      · exact s3 k (by omega) y c
  · have c : y ≠ i := by omega
    rw [s3 13 (by omega) y c, s3 17 (by omega) y c, s3 18 (by omega) y c]
    exact h.sx y hy
  · exact h.st.cong (Nat.le_refl _) (by rw [t1 0 (by decide) (by decide)]) (by rw [t1 16 (by decide) (by decide)]) (by rw [t1 17 (by decide) (by decide)]) (by rw [t1 18 (by decide) (by decide)]) (s1 21 (by omega)) (s1 22 (by omega)) (s1 23 (by omega))
/-- what a message on its way is, on both sides -/
theorem Sim.wo (h : Sim n m t τ σ) {i : Nat} (hi : i < m) (h0 : σ 13 i = 0) : τ 6 i 0 = 0 ∧ ∃ hh pl, σ 14 i = nI hh ∧ hh ≤ 11 ∧ σ 15 i = nI pl ∧ pl < hh ∧ τ 7 i 0 = nI hh ∧ τ 7 i 1 = σ 16 i ∧ τ 6 i 1 = nI pl ∧ τ 6 i 2 = nI pl ∧ τ 6 i 3 = σ 17 i ∧ τ 6 i 4 = σ 18 i ∧ WM τ n i hh pl ∧
    (∀ q, q ≤ hh → τ 8 i q = wN σ i q ∧ ∃ x, x < n ∧ wN σ i q = nI x) ∧ (∀ q, 1 ≤ q → q ≤ hh → τ 8 i q = wN σ i q ∧ τ 9 i q = wF σ i q) := by
  obtain ⟨hh, pl, a1, a2, a3, a4, a5, a6, a7, a8, a9, a10, a11, a12, a13⟩ := h.sm hi
  obtain ⟨z1, z2, z3⟩ : σ 13 i = 0 ∧ pl < hh ∧ τ 6 i 2 = nI pl := by
    rcases a11 with z | ⟨z | z, _⟩
    · exact z
    · rw [h0] at z; cases z
    · rw [h0] at z; cases z
  refine ⟨a7.trans h0, hh, pl, a1, a3, a4, z2, a5, a6, a8, z3, a9, a10, ⟨a5, a3, z3, by omega, fun q hq => ?_⟩, a12, fun q q1 q2 => ⟨(a12 q q2).1, a13 q q1 q2⟩⟩
  obtain ⟨b1, x, b2, b3⟩ := a12 q hq
  exact ⟨x, b2, b1.trans b3⟩
theorem Sim.WO (h : Sim n m t τ σ) {i : Nat} (hi : i < m) (h0 : τ 6 i 0 = 0) : WO τ n i := by
  have h13 : σ 13 i = 0 := by obtain ⟨hh, pl, a1, a2, a3, a4, a5, a6, a7, -⟩ := h.sm hi; exact a7.symm.trans h0
  obtain ⟨-, hh, pl, a1, a2, a3, a4, a5, a6, a7, a8, a9, a10, a11, -⟩ := h.wo hi h13
  exact ⟨hh, pl, pl, a11, a7, a4, Nat.le_refl _⟩
theorem Sim.GO (h : Sim n m t τ σ) {i : Nat} (hi : i < m) (h0 : σ 13 i = 0) : GO σ n i := by
  obtain ⟨-, hh, pl, a1, a2, a3, a4, a5, a6, a7, a8, a9, a10, a11, a12, -⟩ := h.wo hi h0
  exact ⟨hh, pl, a1, a2, a3, a4, fun q hq => (a12 q hq).2⟩
theorem mset_row {i k : Nat} {a : Nat} {x : Int32} (h : k ≠ 6) : mset τ i a x k = τ k := tset_row h
theorem payT_cong {A B : T3} {i r : Nat} (h3 : A 3 = B 3) (h8 : A 8 = B 8) (h9 : A 9 = B 9) : payT A n i r 3 = payT B n i r 3 := by
  funext y
  unfold payT
  rw [h3, h8, h9]
theorem traT_cong {A B : T3} {i r : Nat} (h3 : A 3 = B 3) (h8 : A 8 = B 8) : traT A n i r 3 = traT B n i r 3 := by
  funext y
  unfold traT
  rw [h3, h8]
theorem t3f {A B : T3} (h : A 3 = B 3) (x : Nat) (f : Nat → Int32) : tset A 3 x f 3 = tset B 3 x f 3 := by
  funext y
  by_cases c : y = x
  · subst c; rw [tset_s, tset_s]
  · rw [tset_n (fun q => c q.2), tset_n (fun q => c q.2), h]
theorem t3c {A B : T3} (h : A 3 = B 3) (x : Nat) (g : (Nat → Int32) → Nat → Int32) : tset A 3 x (g (A 3 x)) 3 = tset B 3 x (g (B 3 x)) 3 := by
  rw [h]; exact t3f h x _
def LT (B : T3) (x s : Nat) (tk v : Int32) : T3 :=
  let C := tset B 3 x (upd (B 3 x) 1 (B 3 x 1 - tk))
  let D := tset C 3 s (upd (C 3 s) 0 (C 3 s 0 + v))
  tset D 3 x (upd (D 3 x) 3 (low (D 3 x 3) 20))
theorem losT_3 {i rc x s : Nat} {B : T3} (h2 : payT (mset τ i 0 2) n i rc 3 = B 3) : losT τ n i rc x s 3 = LT B x s (lm (payS (τ 9 i) rc) (B 3 x 1)) (τ 7 i 1 - payS (τ 9 i) rc + lm (payS (τ 9 i) rc) (B 3 x 1)) 3 := by
  have e1 : payT (mset τ i 0 2) n i rc 3 x 1 = B 3 x 1 := by rw [h2]
  unfold losT LT
  rw [e1]
  refine t3c ?_ x (fun f => upd f 3 (low (f 3) 20))
  refine t3c ?_ s (fun f => upd f 0 (f 0 + _))
  refine (tset_row (by decide)).trans ?_
  rw [h2]
  refine t3f ?_ x _
  exact (tset_row (by decide)).trans h2
theorem losT_6 {i rc x s : Nat} : losT τ n i rc x s 6 i = upd (upd (upd (τ 6 i) 0 2) 3 (τ 7 i 1 - payS (τ 9 i) rc)) 4 (lm (payS (τ 9 i) rc) (payT (mset τ i 0 2) n i rc 3 x 1)) := by
  unfold losT
  rw [tset_k (by decide), tset_k (by decide), tset_s, payT_k (by decide), mset_s]
theorem Sim.move (h : Sim n m t τ σ) {i : Nat} (hi : i < m) (h0 : σ 13 i = 0) : Sim n m t (moT τ n i) (gsS σ n i) := by
  obtain ⟨t0, hh, pl, a1, a2, a3, a4, a5, a6, a7, a8, a9, a10, a11, a12, a13⟩ := h.wo hi h0
  have n12 := h.n12
  have t1 : ∀ k, k ≠ 3 → k ≠ 6 → moT τ n i k = τ k := fun k k3 k6 => by funext y; exact moT_k k3 (fun z => k6 z.1)
  have t6 : ∀ y, y ≠ i → moT τ n i 6 y = τ 6 y := fun y hy => moT_k (by decide) (fun z => hy z.2)
  have s1 : ∀ k, k = 6 ∨ k = 11 ∨ k = 14 ∨ k = 16 ∨ (18 < k ∧ k < 24) → gsS σ n i k = σ k := fun k hk => gsS_k (by omega)
  have s3 : ∀ k, k = 13 ∨ k = 15 ∨ k = 17 ∨ k = 18 → ∀ y, y ≠ i → gsS σ n i k y = σ k y := fun k hk y hy => gsS_i hk hy
  have g14 : gsS σ n i 14 i = nI hh := by rw [s1 14 (by omega)]; exact a1
  have g16 : τ 7 i 1 = gsS σ n i 16 i := by rw [s1 16 (by omega)]; exact a6
  have g19 : ∀ q, q ≤ hh → τ 8 i q = wN (gsS σ n i) i q ∧ ∃ x, x < n ∧ wN (gsS σ n i) i q = nI x := fun q hq => by
    have e : wN (gsS σ n i) i q = wN σ i q := by show gsS σ n i 19 _ = σ 19 _; rw [s1 19 (by omega)]
    rw [e]; exact a12 q hq
  have g20 : ∀ q, 1 ≤ q → q ≤ hh → τ 9 i q = wF (gsS σ n i) i q := fun q q1 q2 => by
    have e : wF (gsS σ n i) i q = wF σ i q := by show gsS σ n i 20 _ = σ 20 _; rw [s1 20 (by omega)]
    rw [e]; exact (a13 q q1 q2).2
  have g1r : ∀ k, k ≠ 15 → gs1 σ i pl k = σ k := fun k hk => stp_k hk
  have N0 : NS n t τ (gs1 σ i pl) := NS.rows (τ := τ) (σ := σ) h.2.1 rfl (fun k hk => g1r k (by omega))
  have hPay : payS (wF σ i) pl = payS (τ 9 i) pl := payS_cong pl (fun q q1 q2 => (a13 q q1 (by omega)).2.symm)
  have hw : ∀ q, 1 ≤ q → q ≤ pl → τ 8 i q = wN σ i q ∧ τ 9 i q = wF σ i q := fun q q1 q2 => a13 q q1 (by omega)
  by_cases c : pl + 1 = hh
  · -- it comes to its last node
    have eT := moT_del a11 a7 a4 (nI_nlt (by omega) (by omega))
    have eS := gsS_D (n := n) a1 a2 a3 c
    have e6 : moT τ n i 6 i = upd (upd (τ 6 i) 1 (nI (pl + 1))) 0 1 := by
      rw [eT]; unfold delT; rw [traT_k (by decide), payT_k (by decide), mset_s, mset_s]
    have e3 : moT τ n i 3 = traT (payT τ n i pl) n i pl 3 := by
      rw [eT]
      unfold delT
      refine traT_cong (payT_cong ?_ ?_ ?_) ?_
      · rw [mset_row (by decide), mset_row (by decide)]
      · rw [mset_row (by decide), mset_row (by decide)]
      · rw [mset_row (by decide), mset_row (by decide)]
      · funext y
        rw [payT_k (by decide), payT_k (by decide), mset_k (by decide), mset_k (by decide)]
    have b1r : ∀ k, k ≠ 13 → k ≠ 15 → stp (gs1 σ i pl) 13 i (fun _ => 1) k = σ k := fun k k1 k2 => by rw [stp_k k1]; exact g1r k k2
    have eD : gsS σ n i = pyS (stp (gs1 σ i pl) 13 i (fun _ => 1)) n i pl 1 := by
      rw [eS]; unfold gsD; rw [show hh - 1 = pl by omega]
    have N1 : NS n t τ (stp (gs1 σ i pl) 13 i (fun _ => 1)) := N0.rows rfl (fun k hk => stp_k (by omega))
    have hw1 : ∀ q, 1 ≤ q → q ≤ pl → τ 8 i q = wN (stp (gs1 σ i pl) 13 i (fun _ => 1)) i q ∧ τ 9 i q = wF (stp (gs1 σ i pl) 13 i (fun _ => 1)) i q := fun q q1 q2 => by
      show _ = stp (gs1 σ i pl) 13 i (fun _ => 1) 19 _ ∧ _ = stp (gs1 σ i pl) 13 i (fun _ => 1) 20 _
      rw [b1r 19 (by decide) (by decide), b1r 20 (by decide) (by decide)]
      exact hw q q1 q2
    have N2 : NS n t (moT τ n i) (gsS σ n i) := by
      rw [eD]
      exact (N1.dlv hw1).rows e3 (fun _ _ => rfl)
    refine h.mv (i := i) N2 ⟨hh, pl + 1, g14, by omega, a2, ?_, a5, g16, ?_, ?_, ?_, ?_, Or.inr ⟨Or.inl ?_, by omega, by omega, ?_⟩, g19, g20⟩ t1 t6 s1 (fun k hk y hy => ?_) s3 hi (fun x hx => ?_)
    · rw [eD, pyS_k ⟨by decide, by decide, by decide⟩, stp_k (by decide)]; exact stp_s
    · rw [e6, upd_s, eD, pyS_k ⟨by decide, by decide, by decide⟩, stp_s]
    · rw [e6, upd_n (by decide), upd_s]
    · rw [e6, upd_n (by decide), upd_n (by decide), eD, pyS_k ⟨by decide, by decide, by decide⟩, b1r 17 (by decide) (by decide)]; exact a9
    · rw [e6, upd_n (by decide), upd_n (by decide), eD, pyS_k ⟨by decide, by decide, by decide⟩, b1r 18 (by decide) (by decide)]; exact a10
    · rw [eD, pyS_k ⟨by decide, by decide, by decide⟩, stp_s]
    · rw [e6, upd_n (by decide), upd_n (by decide), a8, show pl + 1 - 1 = pl by omega]
    · rw [eD, pyS_n hy, b1r k (by omega) (by omega)]
    · have hst := (paA_step (x := nI x) (i := i) t6 (t1 8 (by decide) (by decide)) (t1 9 (by decide) (by decide)) t0 (by rw [e6, upd_s]; decide) m).2 hi
      rw [hst, ← h.got hx, e6, upd_n (by decide), upd_n (by decide), a8, ix_nI (by omega), eD, pyS_9 hx, b1r 9 (by decide) (by decide)]
      exact congrArg _ (rpS_cong pl hw1).symm
  · obtain ⟨b1, x, hx, ex⟩ := a12 (pl + 1) (by omega)
    obtain ⟨c1, s, hs, es⟩ := a12 0 (by omega)
    have hlt : nI (pl + 1) < nI hh := nI_lt (by omega) (by omega)
    have ex8 : τ 8 i (pl + 1) = nI x := b1.trans ex
    obtain ⟨q0, q1, q2, q3, q4, q6, q7, q8, -⟩ := h.sn hx
    by_cases d : 0 < σ 8 x
    · -- it is lost
      have eT := moT_los n12 a11 a7 a4 hlt hx ex8 (by rw [q8]; exact d)
      have eS := gsS_L n12 a1 a2 a3 a4 c hx ex hs es d
      rw [show ix (τ 8 i 0) = s by rw [c1, es, ix_nI (by omega)]] at eT
      have b3 : ∀ k, k ≠ 3 → k ≠ 6 → tset (mset τ i 1 (nI (pl + 1))) 3 x (upd (τ 3 x) 8 (τ 3 x 8 - 1)) k = τ k := fun k k3 k6 => by rw [tset_row k3, mset_row k6]
      have hA : payT (mset (tset (mset τ i 1 (nI (pl + 1))) 3 x (upd (τ 3 x) 8 (τ 3 x 8 - 1))) i 0 2) n i pl 3 = payT (tset τ 3 x (upd (τ 3 x) 8 (τ 3 x 8 - 1))) n i pl 3 := by
        refine payT_cong ?_ ?_ ?_
        · rw [mset_row (by decide)]
          exact t3f (mset_row (by decide)) x _
        · rw [mset_row (by decide), b3 8 (by decide) (by decide), tset_row (by decide)]
        · rw [mset_row (by decide), b3 9 (by decide) (by decide), tset_row (by decide)]
      have e3 := losT_3 (x := x) (s := s) hA
      rw [← eT, b3 9 (by decide) (by decide), b3 7 (by decide) (by decide)] at e3
      have e6 : moT τ n i 6 i = upd (upd (upd (upd (τ 6 i) 1 (nI (pl + 1))) 0 2) 3 (τ 7 i 1 - payS (τ 9 i) pl)) 4 (lm (payS (τ 9 i) pl) (payT (tset τ 3 x (upd (τ 3 x) 8 (τ 3 x 8 - 1))) n i pl 3 x 1)) := by
        rw [eT, losT_6, hA, b3 9 (by decide) (by decide), b3 7 (by decide) (by decide), tset_k (by decide), mset_s]
      generalize hBB : payT (tset τ 3 x (upd (τ 3 x) 8 (τ 3 x 8 - 1))) n i pl = B at e3 e6
      generalize htk : lm (payS (τ 9 i) pl) (B 3 x 1) = tk at e3 e6
      -- the model's steps
      have N1 : NS n t (tset τ 3 x (upd (τ 3 x) 8 (τ 3 x 8 - 1))) (stp (gs1 σ i pl) 8 x (fun s => s 8 x - 1)) := N0.one ((N0 x hx).set8 (by dsimp only; rw [q8, g1r 8 (by decide)])) (fun k y hy => sset_y hy) (stp_k (by decide))
      have N2 : NS n t (tset τ 3 x (upd (τ 3 x) 8 (τ 3 x 8 - 1))) (stp (stp (gs1 σ i pl) 8 x (fun s => s 8 x - 1)) 13 i (fun _ => 2)) := N1.rows rfl (fun k hk => stp_k (by omega))
      have b2r : ∀ k, k ≠ 8 → k ≠ 13 → k ≠ 15 → stp (stp (gs1 σ i pl) 8 x (fun s => s 8 x - 1)) 13 i (fun _ => 2) k = σ k := fun k k1 k2 k3 => by rw [stp_k k2, stp_k k1]; exact g1r k k3
      have s13 : stp (stp (gs1 σ i pl) 8 x (fun s => s 8 x - 1)) 13 i (fun _ => 2) 13 i = 2 := stp_s
      have s15 : stp (stp (gs1 σ i pl) 8 x (fun s => s 8 x - 1)) 13 i (fun _ => 2) 15 i = nI (pl + 1) := by rw [stp_k (by decide), stp_k (by decide)]; exact stp_s
      have s8 : ∀ y, n ≤ y → stp (stp (gs1 σ i pl) 8 x (fun s => s 8 x - 1)) 13 i (fun _ => 2) 8 y = σ 8 y := fun y hy => by rw [stp_k (by decide), stp_i (by omega)]; rw [g1r 8 (by decide)]
      have eL : gsS σ n i = ltS (stp (stp (stp (stp (pyS (stp (stp (gs1 σ i pl) 8 x (fun s => s 8 x - 1)) 13 i (fun _ => 2)) n i pl 0) 17 i (fun z => z 16 i - payS (wF σ i) pl)) 18 i (fun z => lm (payS (wF σ i) pl) (z 3 x))) 3 x (fun z => z 3 x - z 18 i)) 2 s (fun z => z 2 s + (z 17 i + z 18 i))) x 20 := eS
      generalize stp (stp (gs1 σ i pl) 8 x (fun s => s 8 x - 1)) 13 i (fun _ => 2) = S2 at N2 b2r s13 s15 s8 eL
      have hw2 : ∀ q, 1 ≤ q → q ≤ pl → tset τ 3 x (upd (τ 3 x) 8 (τ 3 x 8 - 1)) 8 i q = wN S2 i q ∧ tset τ 3 x (upd (τ 3 x) 8 (τ 3 x 8 - 1)) 9 i q = wF S2 i q := fun q q1 q2 => by
        show _ = S2 19 _ ∧ _ = S2 20 _
        rw [tset_k (by decide), tset_k (by decide), b2r 19 (by decide) (by decide) (by decide), b2r 20 (by decide) (by decide) (by decide)]
        exact hw q q1 q2
      have N3 := N2.pay hw2
      rw [hBB] at N3
      have p3r : ∀ k, k ≠ 2 → k ≠ 9 → k ≠ 5 → pyS S2 n i pl 0 k = S2 k := fun k k1 k2 k3 => pyS_k ⟨k1, k2, k3⟩
      have p39 : ∀ y, y < n → pyS S2 n i pl 0 9 y = S2 9 y + rpS (wN S2 i) (wF S2 i) (nI y) pl := fun y hy => pyS_9 hy
      have p3n : ∀ k y, n ≤ y → pyS S2 n i pl 0 k y = S2 k y := fun k y hy => pyS_n hy
      generalize pyS S2 n i pl 0 = S3 at N3 p3r p39 p3n eL
      have N5 : NS n t B (stp (stp S3 17 i (fun z => z 16 i - payS (wF σ i) pl)) 18 i (fun z => lm (payS (wF σ i) pl) (z 3 x))) := N3.rows rfl (fun k hk => by rw [stp_k (by omega), stp_k (by omega)])
      have r5 : ∀ k, k ≠ 17 → k ≠ 18 → stp (stp S3 17 i (fun z => z 16 i - payS (wF σ i) pl)) 18 i (fun z => lm (payS (wF σ i) pl) (z 3 x)) k = S3 k := fun k k1 k2 => by rw [stp_k k2, stp_k k1]
      have e16 : S3 16 i = τ 7 i 1 := by rw [p3r 16 (by decide) (by decide) (by decide), b2r 16 (by decide) (by decide) (by decide)]; exact a6.symm
      have v17 : stp (stp S3 17 i (fun z => z 16 i - payS (wF σ i) pl)) 18 i (fun z => lm (payS (wF σ i) pl) (z 3 x)) 17 i = τ 7 i 1 - payS (τ 9 i) pl := by
        rw [stp_k (by decide), stp_s, e16, hPay]
      have v18 : stp (stp S3 17 i (fun z => z 16 i - payS (wF σ i) pl)) 18 i (fun z => lm (payS (wF σ i) pl) (z 3 x)) 18 i = tk := by
        rw [stp_s, stp_k (by decide), hPay, ← htk, (N3 x hx).2.1]
      generalize stp (stp S3 17 i (fun z => z 16 i - payS (wF σ i) pl)) 18 i (fun z => lm (payS (wF σ i) pl) (z 3 x)) = S5 at N5 r5 v17 v18 eL
      obtain ⟨C, hC⟩ : ∃ C : T3, C = tset B 3 x (upd (B 3 x) 1 (B 3 x 1 - tk)) := ⟨_, rfl⟩
      have N6 : NS n t C (stp S5 3 x (fun z => z 3 x - z 18 i)) := by
        rw [hC]
        exact N5.one ((N5 x hx).set1 (by dsimp only; rw [(N5 x hx).2.1, v18])) (fun k y hy => sset_y hy) (stp_k (by decide))
      have r6 : ∀ k, k ≠ 3 → stp S5 3 x (fun z => z 3 x - z 18 i) k = S5 k := fun k hk => stp_k hk
      generalize stp S5 3 x (fun z => z 3 x - z 18 i) = S6 at N6 r6 eL
      obtain ⟨D, hD⟩ : ∃ D : T3, D = tset C 3 s (upd (C 3 s) 0 (C 3 s 0 + (τ 7 i 1 - payS (τ 9 i) pl + tk))) := ⟨_, rfl⟩
      have N7 : NS n t D (stp S6 2 s (fun z => z 2 s + (z 17 i + z 18 i))) := by
        rw [hD]
        exact N6.one ((N6 s hs).set0 (by dsimp only; rw [(N6 s hs).1, r6 17 (by decide), r6 18 (by decide), v17, v18])) (fun k y hy => sset_y hy) (stp_k (by decide))
      have r7 : ∀ k, k ≠ 2 → stp S6 2 s (fun z => z 2 s + (z 17 i + z 18 i)) k = S6 k := fun k hk => stp_k hk
      generalize stp S6 2 s (fun z => z 2 s + (z 17 i + z 18 i)) = S7 at N7 r7 eL
      have N8 : NS n t (tset D 3 x (upd (D 3 x) 3 (low (D 3 x 3) 20))) (ltS S7 x 20) := N7.one ((N7 x hx).set3 (b := 20) (by decide)) (fun k y hy => by unfold ltS; exact sset_y hy) (ltS_k (by decide))
      have eLT : LT B x s tk (τ 7 i 1 - payS (τ 9 i) pl + tk) = tset D 3 x (upd (D 3 x) 3 (low (D 3 x 3) 20)) := by
        subst hD hC; rfl
      have N9 : NS n t (moT τ n i) (gsS σ n i) := by
        rw [eL]
        exact N8.rows (by rw [e3, eLT]) (fun _ _ => rfl)
      have gk : ∀ k, k ≠ 2 → k ≠ 3 → k ≠ 5 → gsS σ n i k = S5 k := fun k k1 k2 k3 => by rw [eL, ltS_k k3, r7 k k1, r6 k k2]
      have hw3 : ∀ q, 1 ≤ q → q ≤ pl → τ 8 i q = wN S2 i q ∧ τ 9 i q = wF S2 i q := fun q q1 q2 => by
        have := hw2 q q1 q2
        rw [tset_k (by decide), tset_k (by decide)] at this
        exact this
      refine h.mv (i := i) N9 ⟨hh, pl + 1, g14, by omega, a2, ?_, a5, g16, ?_, ?_, ?_, ?_, Or.inr ⟨Or.inr ?_, by omega, by omega, ?_⟩, g19, g20⟩ t1 t6 s1 (fun k hk y hy => ?_) s3 hi (fun y hy => ?_)
      · rw [gk 15 (by decide) (by decide) (by decide), r5 15 (by decide) (by decide), p3r 15 (by decide) (by decide) (by decide)]; exact s15
      · rw [e6, upd_n (by decide), upd_n (by decide), upd_s, gk 13 (by decide) (by decide) (by decide), r5 13 (by decide) (by decide), p3r 13 (by decide) (by decide) (by decide)]; exact s13.symm
      · rw [e6, upd_n (by decide), upd_n (by decide), upd_n (by decide), upd_s]
      · rw [e6, upd_n (by decide), upd_s, gk 17 (by decide) (by decide) (by decide)]; exact v17.symm
      · rw [e6, upd_s, gk 18 (by decide) (by decide) (by decide)]; exact v18.symm
      · rw [gk 13 (by decide) (by decide) (by decide), r5 13 (by decide) (by decide), p3r 13 (by decide) (by decide) (by decide)]; exact s13
      · rw [e6, upd_n (by decide), upd_n (by decide), upd_n (by decide), upd_n (by decide), a8, show pl + 1 - 1 = pl by omega]
      · rw [gk k (by omega) (by omega) (by omega), r5 k (by omega) (by omega), p3n k y hy]
        by_cases z : k = 8
        · subst z; exact s8 y hy
        · rw [b2r k z (by omega) (by omega)]
      · have hst := (paA_step (x := nI y) (i := i) t6 (t1 8 (by decide) (by decide)) (t1 9 (by decide) (by decide)) t0 (by rw [e6, upd_n (by decide), upd_n (by decide), upd_s]; decide) m).2 hi
        rw [hst, ← h.got hy, e6, upd_n (by decide), upd_n (by decide), upd_n (by decide), upd_n (by decide), a8, ix_nI (by omega), gk 9 (by decide) (by decide) (by decide), r5 9 (by decide) (by decide), p39 y hy, b2r 9 (by decide) (by decide) (by decide)]
        exact congrArg _ (rpS_cong pl hw3).symm
    · -- it goes on
      have eT := moT_on n12 a11 a7 a4 hlt hx ex8 (by rw [q8]; exact d)
      have eS := gsS_R n12 a1 a2 a3 a4 c hx ex d
      have e6 : moT τ n i 6 i = upd (upd (τ 6 i) 1 (nI (pl + 1))) 2 (nI (pl + 1)) := by
        rw [eT, tset_k (by decide), tset_s, nI_1]
      have e3 : moT τ n i 3 = tset τ 3 x (upd (τ 3 x) 7 (τ 3 x 7 + 1)) 3 := by
        rw [eT]; exact t3f (tset_row (by decide)) x _
      have N1 : NS n t (tset τ 3 x (upd (τ 3 x) 7 (τ 3 x 7 + 1))) (stp (gs1 σ i pl) 10 x (fun s => s 10 x + 1)) := N0.one ((N0 x hx).set7 (by dsimp only; rw [q7, g1r 10 (by decide)])) (fun k y hy => sset_y hy) (stp_k (by decide))
      have eR : gsS σ n i = stp (gs1 σ i pl) 10 x (fun s => s 10 x + 1) := eS
      have N2 : NS n t (moT τ n i) (gsS σ n i) := by
        rw [eR]
        exact N1.rows e3 (fun _ _ => rfl)
      have gk : ∀ k, k ≠ 10 → k ≠ 15 → gsS σ n i k = σ k := fun k k1 k2 => by rw [eR, stp_k k1]; exact g1r k k2
      refine h.mv (i := i) N2 ⟨hh, pl + 1, g14, by omega, a2, ?_, a5, g16, ?_, ?_, ?_, ?_, Or.inl ⟨?_, by omega, ?_⟩, g19, g20⟩ t1 t6 s1 (fun k hk y hy => ?_) s3 hi (fun y hy => ?_)
      · rw [eR, stp_k (by decide)]; exact stp_s
      · rw [e6, upd_n (by decide), upd_n (by decide), gk 13 (by decide) (by decide), h0]; exact t0
      · rw [e6, upd_n (by decide), upd_s]
      · rw [e6, upd_n (by decide), upd_n (by decide), gk 17 (by decide) (by decide)]; exact a9
      · rw [e6, upd_n (by decide), upd_n (by decide), gk 18 (by decide) (by decide)]; exact a10
      · rw [gk 13 (by decide) (by decide)]; exact h0
      · rw [e6, upd_s]
      · by_cases z : k = 10
        · subst z; rw [eR, stp_i (show y ≠ x by omega), g1r 10 (by decide)]
        · rw [gk k z (by omega)]
      · rw [gk 9 (by decide) (by decide), h.got hy]
        exact (paA_on (x := nI y) (i := i) t6 (t1 8 (by decide) (by decide)) (t1 9 (by decide) (by decide)) t0 (by rw [e6, upd_n (by decide), upd_n (by decide)]; exact t0) m).symm
theorem Sim.mm (h : Sim n m t τ σ) : ∀ r, r ≤ m → Sim n m t (mmT τ n r) (mmS σ n r)
  | 0, _ => h
  | r + 1, hr => by
    have ih := Sim.mm h r (by omega)
    obtain ⟨hh, pl, a1, a2, a3, a4, a5, a6, a7, -⟩ := ih.sm (show r < m by omega)
    show Sim n m t (if mmT τ n r 6 r 0 = 0 then moT (mmT τ n r) n r else mmT τ n r) (if mmS σ n r 13 r = 0 then gsS (mmS σ n r) n r else mmS σ n r)
    rw [a7]
    by_cases c : mmS σ n r 13 r = 0
    · rw [if_pos c, if_pos c]
      exact ih.move (by omega) c
    · rw [if_neg c, if_neg c]
      exact ih
/-! the next tick begins -/
theorem ch_same (hh : ∀ y, y < n → τ 3 y 4 = σ 6 y) : (∀ k, k ≤ n → cntJ τ k = cntM σ k) ∧ ∀ r k a, k + r ≤ n → (chS τ r k a = chM σ r k a - 1 ∧ (chM σ r k a = 0 ∨ ∃ z, z < n ∧ chM σ r k a = nI (z + 1))) := by
  refine ⟨fun k => ?_, fun r => ?_⟩
  · induction k with
    | zero => exact fun _ => rfl
    | succ k ih =>
      intro hk
      show (if τ 3 k 4 = 0 then cntJ τ k + 1 else cntJ τ k) = if σ 6 k = 0 then cntM σ k + 1 else cntM σ k
      rw [ih (by omega), hh k (by omega)]
  · induction r with
    | zero => exact fun k a _ => ⟨(by decide : (-1 : Int32) = 0 - 1), Or.inl rfl⟩
    | succ r ih =>
      intro k a hk
      show (if τ 3 k 4 = 0 then (if a = 0 then nI k else chS τ r (k + 1) (a - 1)) else chS τ r (k + 1) a) = (if σ 6 k = 0 then (if a = 0 then nI (k + 1) else chM σ r (k + 1) (a - 1)) else chM σ r (k + 1) a) - 1 ∧ ((if σ 6 k = 0 then (if a = 0 then nI (k + 1) else chM σ r (k + 1) (a - 1)) else chM σ r (k + 1) a) = 0 ∨ ∃ z, z < n ∧ (if σ 6 k = 0 then (if a = 0 then nI (k + 1) else chM σ r (k + 1) (a - 1)) else chM σ r (k + 1) a) = nI (z + 1))
      rw [hh k (by omega)]
      by_cases c : σ 6 k = 0
      · rw [if_pos c, if_pos c]
        by_cases d : a = 0
        · rw [if_pos d, if_pos d]
          exact ⟨(nI_pred k).symm, Or.inr ⟨k, by omega, rfl⟩⟩
        · rw [if_neg d, if_neg d]
          exact ih (k + 1) (a - 1) (by omega)
      · rw [if_neg c, if_neg c]
        exact ih (k + 1) a (by omega)
theorem cnt0 : ∀ (k : Nat), cntM σ k = 0 → ∀ y, y < k → ¬ σ 6 y = 0
  | 0, _, y, hy => by omega
  | k + 1, h, y, hy => by
    have h : (if σ 6 k = 0 then cntM σ k + 1 else cntM σ k) = 0 := h
    by_cases c : σ 6 k = 0
    · rw [if_pos c] at h; omega
    · rw [if_neg c] at h
      by_cases d : y = k
      · subst d; exact c
      · exact cnt0 k h y (by omega)
theorem chM_0 (h : ∀ y, y < n → ¬ σ 6 y = 0) : ∀ r k a, k + r ≤ n → chM σ r k a = 0
  | 0, _, _, _ => rfl
  | r + 1, k, a, hk => by
    show (if σ 6 k = 0 then (if a = 0 then nI (k + 1) else chM σ r (k + 1) (a - 1)) else chM σ r (k + 1) a) = 0
    rw [if_neg (h k (by omega))]
    exact chM_0 h r (k + 1) a (by omega)
theorem chW_same (hh : ∀ y, y < n → τ 3 y 4 = σ 6 y) (T : Nat) : chW τ n T = chMW σ n T - 1 ∧ (chMW σ n T = 0 ∨ ∃ z, z < n ∧ chMW σ n T = nI (z + 1)) := by
  obtain ⟨c1, c2⟩ := ch_same hh
  unfold chW chMW
  rw [c1 n (Nat.le_refl n)]
  by_cases c : cntM σ n = 0
  · rw [if_pos c, if_pos c, chM_0 (cnt0 n c) n 0 0 (by omega)]
    exact ⟨by decide, Or.inl rfl⟩
  · rw [if_neg c, if_neg c]
    exact c2 n 0 _ (by omega)
theorem Sim.bg (h : Sim n m t τ σ) (ht : t + 1 ≤ 5000) : Sim n m (t + 1) (bgT τ n t) (bgS σ n t) := by
  have n12 := h.n12
  have o1 : ∀ k, k ≠ 0 → tset τ 0 0 (upd (τ 0 0) 0 (nI (t + 1))) k = τ k := fun k hk => tset_row hk
  have o3 : ∀ k, k ≠ 0 → k ≠ 3 → goT (tset τ 0 0 (upd (τ 0 0) 0 (nI (t + 1)))) (nI (t + 1)) n k = τ k := fun k k0 k3 => by
    funext y; rw [goT_k k3, o1 k k0]
  have s3 : ∀ k, k ≠ 6 → k ≠ 2 → k ≠ 3 → gnS σ (t + 1) n k = σ k := fun k a b c => gnS_k ⟨a, b, c⟩
  have v0 : goT (tset τ 0 0 (upd (τ 0 0) 0 (nI (t + 1)))) (nI (t + 1)) n 0 0 0 = nI (t + 1) := by rw [goT_k (by decide), tset_s, upd_s]
  -- the nodes
  have N : NS n (t + 1) (goT (tset τ 0 0 (upd (τ 0 0) 0 (nI (t + 1)))) (nI (t + 1)) n) (gnS σ (t + 1) n) := fun y hy => by
    obtain ⟨a0, a1, a2, a3, a4, a6, a7, a8, ah, ap, aq, al, an, ak⟩ := h.sn hy
    by_cases c : σ 6 y = 1 ∧ σ 7 y = nI (t + 1)
    · obtain ⟨c1, c2⟩ := c
      have e3 : goT (tset τ 0 0 (upd (τ 0 0) 0 (nI (t + 1)))) (nI (t + 1)) n 3 y = gon (τ 3 y) := by
        unfold goT
        rw [o1 3 (by decide), if_pos ⟨rfl, hy, by rw [a4]; exact c1, by rw [(al c1).1, c2]; exact Int32.lt_irrefl⟩]
      have es : ∀ k, gnS σ (t + 1) n k y = if k = 6 then 2 else if k = 2 then σ 2 y + σ 3 y else if k = 3 then 0 else σ k y := fun k => if_pos ⟨hy, c1, c2⟩
      rw [e3]
      unfold SN
      rw [es 2, es 3, es 4, es 5, es 6, es 7, es 8, es 9, es 10, s3 11 (by decide) (by decide) (by decide)]
      exact ⟨by simp [gon, upd, a0, a1], by simp [gon, upd], by simp [gon, upd, a2], by simp [gon, upd, a3], by simp [gon, upd], by simp [gon, upd, a6], by simp [gon, upd, a7], by simp [gon, upd, a8], by simp, by simpa using ap, by simpa using aq, fun z => by simp at z, fun _ => by simp [gon, upd], by simpa [gon, upd] using ak⟩
    · have es : ∀ k, gnS σ (t + 1) n k y = σ k y := fun k => if_neg (fun z => c z.2)
      have e3 : goT (tset τ 0 0 (upd (τ 0 0) 0 (nI (t + 1)))) (nI (t + 1)) n 3 y = τ 3 y := by
        unfold goT
        rw [o1 3 (by decide)]
        refine if_neg (fun z => c ?_)
        obtain ⟨-, -, z1, z2⟩ := z
        rw [a4] at z1
        obtain ⟨l1, g, l2, l3, l4⟩ := al z1
        rw [l1, l2, nI_ltI (by omega) (by omega)] at z2
        refine ⟨z1, ?_⟩
        rw [l2, show g = t + 1 by omega]
      rw [e3]
      unfold SN
      rw [es 2, es 3, es 4, es 5, es 6, es 7, es 8, es 9, es 10, s3 11 (by decide) (by decide) (by decide)]
      refine ⟨a0, a1, a2, a3, a4, a6, a7, a8, ah, ap, aq, fun z => ?_, an, ak⟩
      obtain ⟨l1, g, l2, l3, l4⟩ := al z
      refine ⟨l1, g, l2, ?_, l4⟩
      have : g ≠ t + 1 := fun w => c ⟨z, by rw [l2, w]⟩
      omega
  have eW := chW_same (T := t + 1) (fun y hy => (N y hy).2.2.2.2.1)
  have eo : ∀ k y, n ≤ y → gnS σ (t + 1) n k y = σ k y := fun k y hy => gnS_o hy
  have eb : bgS σ n t = sset (gnS σ (t + 1) n) 21 (upd (gnS σ (t + 1) n 21) (t + 1) (chMW (gnS σ (t + 1) n) n (t + 1))) := rfl
  have ebT : bgT τ n t = begT (goT (tset τ 0 0 (upd (τ 0 0) 0 (nI (t + 1)))) (nI (t + 1)) n) (t + 1) (chW (goT (tset τ 0 0 (upd (τ 0 0) 0 (nI (t + 1)))) (nI (t + 1)) n) n (t + 1)) := rfl
  rw [eb, ebT]
  generalize goT (tset τ 0 0 (upd (τ 0 0) 0 (nI (t + 1)))) (nI (t + 1)) n = τ3 at o3 v0 N eW
  generalize gnS σ (t + 1) n = σ3 at s3 N eW eo
  obtain ⟨w1, w2⟩ := eW
  generalize chW τ3 n (t + 1) = x at w1
  generalize chMW σ3 n (t + 1) = w at w1 w2
  have oB : ∀ k, k ≠ 16 → k ≠ 17 → k ≠ 18 → begT τ3 (t + 1) x k = τ3 k := fun k a b c => by unfold begT; rw [tset_row c, tset_row b, tset_row a]
  have sB : ∀ k, k ≠ 21 → sset σ3 21 (upd (σ3 21) (t + 1) w) k = σ3 k := fun k a => sset_n a
  have b16 : begT τ3 (t + 1) x 16 0 = upd (τ3 16 0) ((t + 1) % 11) x := by unfold begT; rw [tset_k (by decide), tset_k (by decide), tset_s]
  have b17 : begT τ3 (t + 1) x 17 0 = upd (τ3 17 0) ((t + 1) % 11) 0 := by unfold begT; rw [tset_k (by decide), tset_s]
  have b18 : begT τ3 (t + 1) x 18 0 = upd (τ3 18 0) ((t + 1) % 11) 0 := by unfold begT; rw [tset_s]
  have b21 : sset σ3 21 (upd (σ3 21) (t + 1) w) 21 = upd (σ3 21) (t + 1) w := sset_s
  obtain ⟨u0, u1, u2, u3, u4⟩ := h.st
  refine ⟨⟨n12, h.m60, ht⟩, fun i hi => ?_, fun i h1 h2 => ?_, fun i hi => ?_, fun i hi => ?_, ⟨?_, fun q q1 q2 => ?_, fun q q1 => ?_, fun q q1 => ?_, fun r hr => ?_⟩, fun i hi => ?_⟩
  · rw [oB 3 (by decide) (by decide) (by decide)]
    exact (N i hi).cong (fun k _ _ => by rw [sB k (by omega)]) (fun j _ => by rw [sB 11 (by decide)])
  · rw [sB 6 (by decide), sB 8 (by decide), sB 9 (by decide), sB 10 (by decide), sB 11 (by decide), eo 6 i h1, eo 8 i h1, eo 9 i h1, eo 10 i h1, s3 11 (by decide) (by decide) (by decide)]
    exact h.se i h1 h2
  · rw [oB 6 (by decide) (by decide) (by decide), oB 7 (by decide) (by decide) (by decide), oB 8 (by decide) (by decide) (by decide), oB 9 (by decide) (by decide) (by decide), o3 6 (by decide) (by decide), o3 7 (by decide) (by decide), o3 8 (by decide) (by decide), o3 9 (by decide) (by decide)]
    exact (h.sm hi).cong (Nat.le_refl _) (fun k k1 k2 => by rw [sB k (by omega), s3 k (by omega) (by omega) (by omega)]) (fun j _ => by rw [sB 19 (by decide), s3 19 (by decide) (by decide) (by decide)]) (fun j _ => by rw [sB 20 (by decide), s3 20 (by decide) (by decide) (by decide)])
  · rw [sB 13 (by decide), sB 17 (by decide), sB 18 (by decide), s3 13 (by decide) (by decide) (by decide), s3 17 (by decide) (by decide) (by decide), s3 18 (by decide) (by decide) (by decide)]
    exact h.sx i hi
  · rw [oB 0 (by decide) (by decide) (by decide)]; exact v0
  · rw [b16, b17, b18, b21, sB 22 (by decide), sB 23 (by decide), o3 16 (by decide) (by decide), o3 17 (by decide) (by decide), o3 18 (by decide) (by decide), s3 21 (by decide) (by decide) (by decide), s3 22 (by decide) (by decide) (by decide), s3 23 (by decide) (by decide) (by decide)]
    by_cases z : q = t + 1
    · subst z
      obtain ⟨u5, u6⟩ := u3 (t + 1) (by omega)
      rw [upd_s, upd_s, upd_s, upd_s, u5, u6]
      exact ⟨w1, rfl, rfl⟩
    · rw [upd_n (show q % 11 ≠ (t + 1) % 11 by omega), upd_n (show q % 11 ≠ (t + 1) % 11 by omega), upd_n (show q % 11 ≠ (t + 1) % 11 by omega), upd_n z]
      exact u1 q (by omega) (by omega)
  · rw [b21, s3 21 (by decide) (by decide) (by decide)]
    by_cases z : q = t + 1
    · subst z; rw [upd_s]; exact w2
    · rw [upd_n z]; exact u2 q (by omega)
  · rw [sB 22 (by decide), sB 23 (by decide), s3 22 (by decide) (by decide) (by decide), s3 23 (by decide) (by decide) (by decide)]
    exact u3 q (by omega)
  · rw [b16, o3 16 (by decide) (by decide)]
    by_cases z : r = (t + 1) % 11
    · subst z
      rw [upd_s, w1]
      rcases w2 with w2 | ⟨y, y1, y2⟩
      · rw [w2]; exact Or.inl (by decide)
      · rw [y2, nI_pred]; exact Or.inr ⟨y, y1, rfl⟩
    · rw [upd_n z]; exact u4 r hr
  · rw [sB 9 (by decide), s3 9 (by decide) (by decide) (by decide), h.got hi]
    exact (paA_cong m fun q _ => by rw [oB 6 (by decide) (by decide) (by decide), oB 8 (by decide) (by decide) (by decide), oB 9 (by decide) (by decide) (by decide), o3 6 (by decide) (by decide), o3 8 (by decide) (by decide), o3 9 (by decide) (by decide)]; exact ⟨rfl, rfl, rfl⟩).symm
theorem Sim.pa (h : Sim n m t τ σ) : ∀ k, t + k ≤ 5000 → Sim n m (t + k) (paT τ n m t k) (paS σ n m t k)
  | 0, _ => h
  | k + 1, hk => by
    have ih := Sim.pa h k (by omega)
    exact (ih.mm m (Nat.le_refl m)).bg (by omega)
theorem Sim.pre (h : Sim n m t τ σ) {k : Nat} (hk : t + k ≤ 5000) : PRE (paT τ n m t k) n m (t + k) := ⟨(h.pa k hk).st.1, fun _ hi h0 => (h.pa k hk).WO hi h0⟩
/-- the class's answer of paidAnew -/
theorem Sim.WMs (h : Sim n m t τ σ) {i : Nat} (hi : i < m) : WMs τ i := by
  obtain ⟨hh, pl, a1, a2, a3, a4, a5, a6, a7, a8, a9, a10, a11, a12, a13⟩ := h.sm hi
  rcases a11 with ⟨z1, z2, z3⟩ | ⟨z1, z2, z3, z4⟩
  · exact ⟨hh, pl, a5, a3, z3, by omega⟩
  · exact ⟨hh, pl - 1, a5, a3, z4, by omega⟩
end Ticks
