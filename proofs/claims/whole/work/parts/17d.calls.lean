/-! ===== calls that change one node; the turns; the answers ===== -/
theorem inR_nI {p hi : Int32} {k : Nat} (hk : hi.toInt = k) (h : inR p 0 hi) : ∃ j : Nat, j ≤ k ∧ p = nI j := nI_of2 hk (inR_i.mp h).1 (Int32.not_lt.mp (inR_i.mp h).2)
theorem low_lt {q b : Nat} (hq : q ≤ 100) (hb : b ≤ 100) : low (nI q) (nI b) = nI (q - b) ∧ (if nI q < nI b then 0 else nI q - nI b) = nI (q - b) := by
  unfold low
  by_cases c : q < b
  · have e : nI q - nI b < 0 := pk_sneg (by omega) c
    rw [if_pos (nI_lt c (by omega)), if_neg (fun z => Int32.lt_irrefl (Int32.lt_trans e z)), show q - b = 0 by omega]
    exact ⟨rfl, rfl⟩
  · rw [if_neg (nI_nlt (by omega) (by omega)), pk_sub (by omega)]
    refine ⟨?_, rfl⟩
    by_cases c2 : q = b
    · subst c2; rw [show q - q = 0 by omega]; exact if_neg (by decide)
    · exact if_pos (nI_lt (a := 0) (by omega) (by omega))
section Simul
variable {n m t : Nat} {τ τ' : T3} {σ σ' : SS}
theorem Sim.price (h : Sim n m t τ σ) {i : Nat} (hi : i < n) {p : Int32} (hp : inR p 0 50) : Sim n m t (nset τ i 2 p) (sset σ 4 (upd (σ 4) i p)) := by
  have hsn := h.sn hi
  obtain ⟨a0, a1, a2, a3, a4, a6, a7, a8, ah, ap, aq, al, an, ak⟩ := hsn
  obtain ⟨q, q1, q2⟩ := inR_nI (k := 50) rfl hp
  refine h.node1 hi ⟨by simp [sset, upd, a0], by simp [sset, upd, a1], by simp [sset, upd, a2], by simp [sset, upd, a3], by simp [sset, upd, a4], by simp [sset, upd, a6], by simp [sset, upd, a7], by simp [sset, upd, a8], by simpa [sset, upd] using ah, ⟨q, q1, by simp [sset, upd, q2]⟩, by simpa [sset, upd] using aq, by simpa [sset, upd] using al, by simpa [sset, upd] using an, fun j hj => by simpa [sset, upd] using ak j hj⟩ (fun k y hy => by
    by_cases c4 : k = 4
    · subst c4; simp [sset, upd, hy]
    simp [sset, upd, c4]) (fun k hk => by have q4 : k ≠ 4 := (by omega); simp [sset, upd, q4])
theorem Sim.lose (h : Sim n m t τ σ) {i : Nat} (hi : i < n) {p : Int32} : Sim n m t (nset τ i 8 p) (sset σ 8 (upd (σ 8) i p)) := by
  have hsn := h.sn hi
  obtain ⟨a0, a1, a2, a3, a4, a6, a7, a8, ah, ap, aq, al, an, ak⟩ := hsn
  refine h.node1 hi ⟨by simp [sset, upd, a0], by simp [sset, upd, a1], by simp [sset, upd, a2], by simp [sset, upd, a3], by simp [sset, upd, a4], by simp [sset, upd, a6], by simp [sset, upd, a7], by simp [sset, upd, a8], by simpa [sset, upd] using ah, by simpa [sset, upd] using ap, by simpa [sset, upd] using aq, by simpa [sset, upd] using al, by simpa [sset, upd] using an, fun j hj => by simpa [sset, upd] using ak j hj⟩ (fun k y hy => by
    by_cases c8 : k = 8
    · subst c8; simp [sset, upd, hy]
    simp [sset, upd, c8]) (fun k hk => by have q8 : k ≠ 8 := (by omega); simp [sset, upd, q8])
theorem Sim.put (h : Sim n m t τ σ) {i : Nat} (hi : i < n) (q : Int32) : Sim n m t (tset τ 3 i (upd (upd (τ 3 i) 0 (τ 3 i 0 - q)) 1 (τ 3 i 1 + q))) (stk σ i q) := by
  have hsn := h.sn hi
  obtain ⟨a0, a1, a2, a3, a4, a6, a7, a8, ah, ap, aq, al, an, ak⟩ := hsn
  refine h.node1 hi ⟨by simp [stk, sset, upd, a0], by simp [stk, sset, upd, a1], by simp [stk, sset, upd, a2], by simp [stk, sset, upd, a3], by simp [stk, sset, upd, a4], by simp [stk, sset, upd, a6], by simp [stk, sset, upd, a7], by simp [stk, sset, upd, a8], by simpa [stk, sset, upd] using ah, by simpa [stk, sset, upd] using ap, by simpa [stk, sset, upd] using aq, by simpa [stk, sset, upd] using al, by simpa [stk, sset, upd] using an, fun j hj => by simpa [stk, sset, upd] using ak j hj⟩ (fun k y hy => by
    by_cases c2 : k = 2
    · subst c2; simp [stk, sset, upd, hy]
    by_cases c3 : k = 3
    · subst c3; simp [stk, sset, upd, hy]
    simp [stk, sset, upd, c2, c3]) (fun k hk => by have q2 : k ≠ 2 := (by omega); have q3 : k ≠ 3 := (by omega); simp [stk, sset, upd, q2, q3])
theorem Sim.leave (h : Sim n m t τ σ) {i : Nat} (hi : i < n)  : Sim n m t (tset τ 3 i (upd (upd (τ 3 i) 4 1) 5 (τ 0 0 0 + 15))) (sset (sset σ 6 (upd (σ 6) i 1)) 7 (upd (σ 7) i (nI (t + 15)))) := by
  have hsn := h.sn hi
  obtain ⟨a0, a1, a2, a3, a4, a6, a7, a8, ah, ap, aq, al, an, ak⟩ := hsn
  have e0 : τ 0 0 0 + 15 = nI (t + 15) := by rw [h.st.1]; exact nI_add t 15
  have t5 := h.t5
  refine h.node1 hi ⟨by simp [sset, upd, a0], by simp [sset, upd, a1], by simp [sset, upd, a2], by simp [sset, upd, a3], by simp [sset, upd, a4], by simp [sset, upd, a6], by simp [sset, upd, a7], by simp [sset, upd, a8], by simp [sset, upd], by simpa [sset, upd] using ap, by simpa [sset, upd] using aq, fun _ => ⟨by simp [sset, upd, e0], t + 15, by simp [sset, upd], by omega, by omega⟩, fun z => absurd (by simp [sset, upd]) z, fun j hj => by simpa [sset, upd] using ak j hj⟩ (fun k y hy => by
    by_cases c6 : k = 6
    · subst c6; simp [sset, upd, hy]
    by_cases c7 : k = 7
    · subst c7; simp [sset, upd, hy]
    simp [sset, upd, c6, c7]) (fun k hk => by have q6 : k ≠ 6 := (by omega); have q7 : k ≠ 7 := (by omega); simp [sset, upd, q6, q7])
theorem Sim.join (h : Sim n m t τ σ) {i : Nat} (hi : i < n) (q : Int32) : Sim n m t (tset τ 3 i (upd (upd (upd (upd (τ 3 i) 0 (τ 3 i 0 - q)) 1 (τ 3 i 1 + q)) 4 0) 5 (-1))) (stk (sset σ 6 (upd (σ 6) i 0)) i q) := by
  have hsn := h.sn hi
  obtain ⟨a0, a1, a2, a3, a4, a6, a7, a8, ah, ap, aq, al, an, ak⟩ := hsn
  refine h.node1 hi ⟨by simp [stk, sset, upd, a0], by simp [stk, sset, upd, a1], by simp [stk, sset, upd, a2], by simp [stk, sset, upd, a3], by simp [stk, sset, upd, a4], by simp [stk, sset, upd, a6], by simp [stk, sset, upd, a7], by simp [stk, sset, upd, a8], by simp [stk, sset, upd], by simpa [stk, sset, upd] using ap, by simpa [stk, sset, upd] using aq, fun z => by simp [stk, sset, upd] at z, fun _ => by simp [upd], fun j hj => by simpa [stk, sset, upd] using ak j hj⟩ (fun k y hy => by
    by_cases c2 : k = 2
    · subst c2; simp [stk, sset, upd, hy]
    by_cases c3 : k = 3
    · subst c3; simp [stk, sset, upd, hy]
    by_cases c6 : k = 6
    · subst c6; simp [stk, sset, upd, hy]
    simp [stk, sset, upd, c2, c3, c6]) (fun k hk => by have q2 : k ≠ 2 := (by omega); have q3 : k ≠ 3 := (by omega); have q6 : k ≠ 6 := (by omega); simp [stk, sset, upd, q2, q3, q6])
theorem Sim.purse (h : Sim n m t τ σ) {i : Nat} (hi : i < n) (v : Int32) : Sim n m t (tset τ 3 i (upd (τ 3 i) 0 (τ 3 i 0 + v))) (sset σ 2 (upd (σ 2) i (σ 2 i + v))) := by
  have hsn := h.sn hi
  obtain ⟨a0, a1, a2, a3, a4, a6, a7, a8, ah, ap, aq, al, an, ak⟩ := hsn
  refine h.node1 hi ⟨by simp [sset, upd, a0], by simp [sset, upd, a1], by simp [sset, upd, a2], by simp [sset, upd, a3], by simp [sset, upd, a4], by simp [sset, upd, a6], by simp [sset, upd, a7], by simp [sset, upd, a8], by simpa [sset, upd] using ah, by simpa [sset, upd] using ap, by simpa [sset, upd] using aq, by simpa [sset, upd] using al, by simpa [sset, upd] using an, fun j hj => by simpa [sset, upd] using ak j hj⟩ (fun k y hy => by
    by_cases c2 : k = 2
    · subst c2; simp [sset, upd, hy]
    simp [sset, upd, c2]) (fun k hk => by have q2 : k ≠ 2 := (by omega); simp [sset, upd, q2])
theorem Sim.pay (h : Sim n m t τ σ) {i : Nat} (hi : i < n) (v : Int32) : Sim n m t (tset τ 3 i (upd (τ 3 i) 0 (τ 3 i 0 - v))) (sset σ 2 (upd (σ 2) i (σ 2 i - v))) := by
  have hsn := h.sn hi
  obtain ⟨a0, a1, a2, a3, a4, a6, a7, a8, ah, ap, aq, al, an, ak⟩ := hsn
  refine h.node1 hi ⟨by simp [sset, upd, a0], by simp [sset, upd, a1], by simp [sset, upd, a2], by simp [sset, upd, a3], by simp [sset, upd, a4], by simp [sset, upd, a6], by simp [sset, upd, a7], by simp [sset, upd, a8], by simpa [sset, upd] using ah, by simpa [sset, upd] using ap, by simpa [sset, upd] using aq, by simpa [sset, upd] using al, by simpa [sset, upd] using an, fun j hj => by simpa [sset, upd] using ak j hj⟩ (fun k y hy => by
    by_cases c2 : k = 2
    · subst c2; simp [sset, upd, hy]
    simp [sset, upd, c2]) (fun k hk => by have q2 : k ≠ 2 := (by omega); simp [sset, upd, q2])
theorem Sim.stake (h : Sim n m t τ σ) {i : Nat} (hi : i < n) (v : Int32) : Sim n m t (tset τ 3 i (upd (τ 3 i) 1 (τ 3 i 1 - v))) (sset σ 3 (upd (σ 3) i (σ 3 i - v))) := by
  have hsn := h.sn hi
  obtain ⟨a0, a1, a2, a3, a4, a6, a7, a8, ah, ap, aq, al, an, ak⟩ := hsn
  refine h.node1 hi ⟨by simp [sset, upd, a0], by simp [sset, upd, a1], by simp [sset, upd, a2], by simp [sset, upd, a3], by simp [sset, upd, a4], by simp [sset, upd, a6], by simp [sset, upd, a7], by simp [sset, upd, a8], by simpa [sset, upd] using ah, by simpa [sset, upd] using ap, by simpa [sset, upd] using aq, by simpa [sset, upd] using al, by simpa [sset, upd] using an, fun j hj => by simpa [sset, upd] using ak j hj⟩ (fun k y hy => by
    by_cases c3 : k = 3
    · subst c3; simp [sset, upd, hy]
    simp [sset, upd, c3]) (fun k hk => by have q3 : k ≠ 3 := (by omega); simp [sset, upd, q3])
theorem Sim.trustL (h : Sim n m t τ σ) {i : Nat} (hi : i < n) {b : Nat} (hb : b ≤ 100) : Sim n m t (tset τ 3 i (upd (τ 3 i) 3 (low (τ 3 i 3) (nI b)))) (ltS σ i (nI b)) := by
  have hsn := h.sn hi
  obtain ⟨a0, a1, a2, a3, a4, a6, a7, a8, ah, ap, aq, al, an, ak⟩ := hsn
  obtain ⟨q, q1, q2⟩ := aq
  obtain ⟨e1, e2⟩ := low_lt q1 hb
  refine h.node1 hi ⟨by simp [ltS, sset, upd, a0], by simp [ltS, sset, upd, a1], by simp [ltS, sset, upd, a2], by simp [ltS, sset, upd, a3, q2, e1, e2], by simp [ltS, sset, upd, a4], by simp [ltS, sset, upd, a6], by simp [ltS, sset, upd, a7], by simp [ltS, sset, upd, a8], by simpa [ltS, sset, upd] using ah, by simpa [ltS, sset, upd] using ap, ⟨q - b, by omega, by simp [ltS, sset, upd, q2, e2]⟩, by simpa [ltS, sset, upd] using al, by simpa [ltS, sset, upd] using an, fun j hj => by simpa [ltS, sset, upd] using ak j hj⟩ (fun k y hy => by
    by_cases c5 : k = 5
    · subst c5; simp [ltS, sset, upd, hy]
    simp [ltS, sset, upd, c5]) (fun k hk => by have q5 : k ≠ 5 := (by omega); simp [ltS, sset, upd, q5])
/-- the turns alone change -/
theorem Sim.turn (h : Sim n m t τ σ) (hτ : ∀ k, k ≠ 16 → k ≠ 17 → k ≠ 18 → τ' k = τ k) (hσ : ∀ k, k ≠ 21 → k ≠ 22 → k ≠ 23 → σ' k = σ k) (hS : ST τ' σ' n t) : Sim n m t τ' σ' := by
  refine ⟨h.1, fun i hi => ?_, fun i h1 h2 => ?_, fun i hi => ?_, fun i hi => ?_, hS, fun x hx => ?_⟩
  · rw [hτ 3 (by decide) (by decide) (by decide)]
    exact (h.sn hi).cong (fun k _ _ => by rw [hσ k (by omega) (by omega) (by omega)]) (fun j _ => by rw [hσ 11 (by decide) (by decide) (by decide)])
  · rw [hσ 6 (by decide) (by decide) (by decide), hσ 8 (by decide) (by decide) (by decide), hσ 9 (by decide) (by decide) (by decide), hσ 10 (by decide) (by decide) (by decide), hσ 11 (by decide) (by decide) (by decide)]
    exact h.se i h1 h2
  · rw [hτ 6 (by decide) (by decide) (by decide), hτ 7 (by decide) (by decide) (by decide), hτ 8 (by decide) (by decide) (by decide), hτ 9 (by decide) (by decide) (by decide)]
    exact (h.sm hi).cong (Nat.le_refl _) (fun k _ _ => by rw [hσ k (by omega) (by omega) (by omega)]) (fun j _ => by rw [hσ 19 (by decide) (by decide) (by decide)]) (fun j _ => by rw [hσ 20 (by decide) (by decide) (by decide)])
  · rw [hσ 13 (by decide) (by decide) (by decide), hσ 17 (by decide) (by decide) (by decide), hσ 18 (by decide) (by decide) (by decide)]
    exact h.sx i hi
  · rw [hσ 9 (by decide) (by decide) (by decide), h.got hx]
    exact (paA_cong m fun i hi => by rw [hτ 6 (by decide) (by decide) (by decide), hτ 8 (by decide) (by decide) (by decide), hτ 9 (by decide) (by decide) (by decide)]; exact ⟨rfl, rfl, rfl⟩).symm
theorem Sim.wake (h : Sim n m t τ σ) : Sim n m t (tset τ 17 0 (upd (τ 17 0) (t % 11) 1)) (sset σ 22 (upd (σ 22) t 1)) := by
  obtain ⟨a, b, c, d, f⟩ := h.st
  refine h.turn (fun k _ h17 _ => tset_row h17) (fun k _ h22 _ => sset_n h22) ⟨?_, fun q h1 h2 => ?_, ?_, fun q hq => ?_, ?_⟩
  · rw [tset_k (by decide)]; exact a
  · obtain ⟨b1, b2, b3⟩ := b q h1 h2
    rw [tset_k (by decide), tset_s, tset_k (by decide), sset_n (by decide), sset_s, sset_n (by decide)]
    refine ⟨b1, ?_, b3⟩
    by_cases z : q = t
    · subst z; rw [upd_s, upd_s]
    · rw [upd_n (show q % 11 ≠ t % 11 by omega), upd_n z]; exact b2
  · rw [sset_n (by decide)]; exact c
  · rw [sset_s, sset_n (by decide), upd_n (show q ≠ t by omega)]
    exact d q hq
  · rw [tset_k (by decide)]; exact f
theorem Sim.provn (h : Sim n m t τ σ) {s : Nat} (hs : s < t) (hs2 : t ≤ s + 10) : Sim n m t (tset τ 18 0 (upd (τ 18 0) (s % 11) 1)) (sset σ 23 (upd (σ 23) s 1)) := by
  obtain ⟨a, b, c, d, f⟩ := h.st
  refine h.turn (fun k _ _ h18 => tset_row h18) (fun k _ _ h23 => sset_n h23) ⟨?_, fun q h1 h2 => ?_, ?_, fun q hq => ?_, ?_⟩
  · rw [tset_k (by decide)]; exact a
  · obtain ⟨b1, b2, b3⟩ := b q h1 h2
    rw [tset_k (by decide), tset_k (by decide), tset_s, sset_n (by decide), sset_n (by decide), sset_s]
    refine ⟨b1, b2, ?_⟩
    by_cases z : q = s
    · subst z; rw [upd_s, upd_s]
    · rw [upd_n (show q % 11 ≠ s % 11 by omega), upd_n z]; exact b3
  · rw [sset_n (by decide)]; exact c
  · rw [sset_n (by decide), sset_s, upd_n (show q ≠ s by omega)]
    exact d q hq
  · rw [tset_k (by decide)]; exact f
theorem tset_comm {τ : T3} {k i k' i' : Nat} {f g : Nat → Int32} (h : k ≠ k') : tset (tset τ k i f) k' i' g = tset (tset τ k' i' g) k i f := by
  funext a b
  simp only [tset]
  by_cases c : a = k ∧ b = i
  · rw [if_pos c, if_neg (fun z => h (c.1.symm.trans z.1)), if_pos c]
  · rw [if_neg c, if_neg c]
theorem Sim.prove (h : Sim n m t τ σ) {i s z : Nat} (hi : i < n) (hz : z < n) (hs : s < t) (hs2 : t ≤ s + 10) : Sim n m t (prvT τ i s z) (prvS σ i s z) := by
  have e1 : τ 3 z 1 = σ 3 z := (h.sn hz).2.1
  have h1 := h.provn hs hs2
  have h2 := h1.stake hz (lm 10 (τ 3 z 1))
  have h3 := h2.purse hi (lm 10 (τ 3 z 1))
  have h4 := h3.trustL hz (b := 10) (by decide)
  have es : prvS σ i s z = ltS (sset (sset (sset σ 23 (upd (σ 23) s 1)) 3 (upd ((sset σ 23 (upd (σ 23) s 1)) 3) z ((sset σ 23 (upd (σ 23) s 1)) 3 z - lm 10 (τ 3 z 1)))) 2 (upd ((sset (sset σ 23 (upd (σ 23) s 1)) 3 (upd ((sset σ 23 (upd (σ 23) s 1)) 3) z ((sset σ 23 (upd (σ 23) s 1)) 3 z - lm 10 (τ 3 z 1)))) 2) i ((sset (sset σ 23 (upd (σ 23) s 1)) 3 (upd ((sset σ 23 (upd (σ 23) s 1)) 3) z ((sset σ 23 (upd (σ 23) s 1)) 3 z - lm 10 (τ 3 z 1)))) 2 i + lm 10 (τ 3 z 1)))) z (nI 10) := by
    rw [e1]; rfl
  rw [es]
  have et : prvT τ i s z = tset (tset (tset (tset τ 18 0 (upd (τ 18 0) (s % 11) 1)) 3 z (upd ((tset τ 18 0 (upd (τ 18 0) (s % 11) 1)) 3 z) 1 ((tset τ 18 0 (upd (τ 18 0) (s % 11) 1)) 3 z 1 - lm 10 (τ 3 z 1)))) 3 i (upd (tset (tset τ 18 0 (upd (τ 18 0) (s % 11) 1)) 3 z (upd ((tset τ 18 0 (upd (τ 18 0) (s % 11) 1)) 3 z) 1 ((tset τ 18 0 (upd (τ 18 0) (s % 11) 1)) 3 z 1 - lm 10 (τ 3 z 1))) 3 i) 0 (tset (tset τ 18 0 (upd (τ 18 0) (s % 11) 1)) 3 z (upd ((tset τ 18 0 (upd (τ 18 0) (s % 11) 1)) 3 z) 1 ((tset τ 18 0 (upd (τ 18 0) (s % 11) 1)) 3 z 1 - lm 10 (τ 3 z 1))) 3 i 0 + lm 10 (τ 3 z 1)))) 3 z (upd (tset (tset (tset τ 18 0 (upd (τ 18 0) (s % 11) 1)) 3 z (upd ((tset τ 18 0 (upd (τ 18 0) (s % 11) 1)) 3 z) 1 ((tset τ 18 0 (upd (τ 18 0) (s % 11) 1)) 3 z 1 - lm 10 (τ 3 z 1)))) 3 i (upd (tset (tset τ 18 0 (upd (τ 18 0) (s % 11) 1)) 3 z (upd ((tset τ 18 0 (upd (τ 18 0) (s % 11) 1)) 3 z) 1 ((tset τ 18 0 (upd (τ 18 0) (s % 11) 1)) 3 z 1 - lm 10 (τ 3 z 1))) 3 i) 0 (tset (tset τ 18 0 (upd (τ 18 0) (s % 11) 1)) 3 z (upd ((tset τ 18 0 (upd (τ 18 0) (s % 11) 1)) 3 z) 1 ((tset τ 18 0 (upd (τ 18 0) (s % 11) 1)) 3 z 1 - lm 10 (τ 3 z 1))) 3 i 0 + lm 10 (τ 3 z 1))) 3 z) 3 (low (tset (tset (tset τ 18 0 (upd (τ 18 0) (s % 11) 1)) 3 z (upd ((tset τ 18 0 (upd (τ 18 0) (s % 11) 1)) 3 z) 1 ((tset τ 18 0 (upd (τ 18 0) (s % 11) 1)) 3 z 1 - lm 10 (τ 3 z 1)))) 3 i (upd (tset (tset τ 18 0 (upd (τ 18 0) (s % 11) 1)) 3 z (upd ((tset τ 18 0 (upd (τ 18 0) (s % 11) 1)) 3 z) 1 ((tset τ 18 0 (upd (τ 18 0) (s % 11) 1)) 3 z 1 - lm 10 (τ 3 z 1))) 3 i) 0 (tset (tset τ 18 0 (upd (τ 18 0) (s % 11) 1)) 3 z (upd ((tset τ 18 0 (upd (τ 18 0) (s % 11) 1)) 3 z) 1 ((tset τ 18 0 (upd (τ 18 0) (s % 11) 1)) 3 z 1 - lm 10 (τ 3 z 1))) 3 i 0 + lm 10 (τ 3 z 1))) 3 z 3) (nI 10))) := by
    funext k y
    unfold prvT
    by_cases c18 : k = 18
    · subst c18
      by_cases c0 : y = 0
      · subst c0; simp [tset]
      · simp [tset, c0]
    · by_cases c3 : k = 3
      · subst c3; simp [tset]; rfl
      · simp [tset, c18, c3]
  rw [et]
  exact h4
/-! the first turn behind a tick that had a watcher: alike -/
theorem nw_same {W V : Nat → Int32} {e : Nat} (hWV : ∀ q, q < e → (W q = -1 ↔ V q = 0)) : ∀ (r j d : Nat), e - j ≤ r → e - j = d → (nwM V e d j < e ∧ j ≤ nwM V e d j ∧ nwF W e r j = nI (nwM V e d j)) ∨ (¬ nwM V e d j < e ∧ nwF W e r j = -1)
  | 0, j, d, h1, h2 => by
    have : d = 0 := by omega
    subst this
    exact Or.inr ⟨by show ¬ j < e; omega, rfl⟩
  | r + 1, j, 0, h1, h2 => by
    refine Or.inr ⟨by show ¬ j < e; omega, ?_⟩
    show (if j < e then _ else -1) = -1
    rw [if_neg (by omega)]
  | r + 1, j, d + 1, h1, h2 => by
    have hj : j < e := by omega
    have h3 := hWV j hj
    show ((if j < e ∧ V j = 0 then nwM V e d (j + 1) else j) < e ∧ j ≤ (if j < e ∧ V j = 0 then nwM V e d (j + 1) else j) ∧ (if j < e then (if W j = -1 then nwF W e r (j + 1) else nI j) else -1) = nI (if j < e ∧ V j = 0 then nwM V e d (j + 1) else j)) ∨ (¬ (if j < e ∧ V j = 0 then nwM V e d (j + 1) else j) < e ∧ (if j < e then (if W j = -1 then nwF W e r (j + 1) else nI j) else -1) = -1)
    by_cases c : V j = 0
    · rw [if_pos ⟨hj, c⟩, if_pos hj, if_pos (h3.mpr c)]
      rcases nw_same hWV r (j + 1) d (by omega) (by omega) with ⟨z1, z2, z3⟩ | z
      · exact Or.inl ⟨z1, by omega, z3⟩
      · exact Or.inr z
    · rw [if_neg (fun z => c z.2), if_pos hj, if_neg (fun z => c (h3.mp z))]
      exact Or.inl ⟨hj, Nat.le_refl _, rfl⟩
theorem w_m1 {w : Int32} : w - 1 = -1 ↔ w = 0 := by
  constructor
  · intro h
    have : w = w - 1 + 1 := by rw [Int32.sub_add_cancel]
    rw [this, h]; decide
  · rintro rfl; decide
theorem ST.w (h : ST τ σ n t) (hn : n ≤ 12) {q : Nat} (hq : q ≤ t) (hq2 : t ≤ q + 10) : (τ 16 0 (q % 11) = -1 ↔ σ 21 q = 0) ∧ ∀ i, i < n → (τ 16 0 (q % 11) = nI i ↔ σ 21 q = nI (i + 1)) := by
  obtain ⟨-, b, c, -⟩ := h
  have e := (b q hq hq2).1
  refine ⟨by rw [e]; exact w_m1, fun i hi => ?_⟩
  rw [e]
  rcases c q hq with z | ⟨z, z1, z2⟩
  · rw [z]
    constructor
    · intro w
      exact absurd w (by
        show (-1 : Int32) ≠ nI i
        intro w2
        have : (nI i) < 0 := by rw [← w2]; decide
        exact nI_pos (by omega) this)
    · intro w
      exact absurd w.symm (nI_ne0 (by omega) (by omega))
  · rw [z2, nI_pred, nI_eq (by omega) (by omega), nI_eq (by omega) (by omega)]
    omega
/-- a turn can be proven: alike -/
theorem Sim.ok (h : Sim n m t τ σ) {i s : Nat} (hi : i < n) : okP τ t s (nI i) ↔ okM σ t s i := by
  unfold okP okM awM
  by_cases hs : s < t
  · by_cases hs2 : t ≤ s + 10
    · have hst := h.st
      have n12 := h.n12
      have t5 := h.t5
      obtain ⟨w1, w2⟩ := hst.w n12 (q := s) (by omega) hs2
      obtain ⟨-, b, c, -⟩ := hst
      obtain ⟨-, b2, b3⟩ := b s (by omega) hs2
      have hnx : (nxM σ t s < t ∧ s + 1 ≤ nxM σ t s ∧ nxW τ t s = nI (nxM σ t s)) ∨ (¬ nxM σ t s < t ∧ nxW τ t s = -1) := by
        unfold nxM nxW
        -- ahead of s + 1 the rows may be others': a watcher's row is read from s + 1 on
        have key : ∀ (r j d : Nat), s + 1 ≤ j → t - j ≤ r → t - j = d → (nwM (σ 21) t d j < t ∧ j ≤ nwM (σ 21) t d j ∧ nwF (fun j => τ 16 0 (j % 11)) t r j = nI (nwM (σ 21) t d j)) ∨ (¬ nwM (σ 21) t d j < t ∧ nwF (fun j => τ 16 0 (j % 11)) t r j = -1) := by
          intro r
          induction r with
          | zero =>
            intro j d h0 h1 h2
            have : d = 0 := by omega
            subst this
            exact Or.inr ⟨by show ¬ j < t; omega, rfl⟩
          | succ r ih =>
            intro j d h0 h1 h2
            cases d with
            | zero =>
              refine Or.inr ⟨by show ¬ j < t; omega, ?_⟩
              show (if j < t then _ else -1) = -1
              rw [if_neg (by omega)]
            | succ d =>
              have hj : j < t := by omega
              have h3 := (h.st.w n12 (q := j) (by omega) (by omega)).1
              show ((if j < t ∧ σ 21 j = 0 then nwM (σ 21) t d (j + 1) else j) < t ∧ j ≤ (if j < t ∧ σ 21 j = 0 then nwM (σ 21) t d (j + 1) else j) ∧ (if j < t then (if τ 16 0 (j % 11) = -1 then nwF (fun j => τ 16 0 (j % 11)) t r (j + 1) else nI j) else -1) = nI (if j < t ∧ σ 21 j = 0 then nwM (σ 21) t d (j + 1) else j)) ∨ (¬ (if j < t ∧ σ 21 j = 0 then nwM (σ 21) t d (j + 1) else j) < t ∧ (if j < t then (if τ 16 0 (j % 11) = -1 then nwF (fun j => τ 16 0 (j % 11)) t r (j + 1) else nI j) else -1) = -1)
              by_cases c : σ 21 j = 0
              · rw [if_pos ⟨hj, c⟩, if_pos hj, if_pos (h3.mpr c)]
                rcases ih (j + 1) d (by omega) (by omega) (by omega) with ⟨z1, z2, z3⟩ | z
                · exact Or.inl ⟨z1, by omega, z3⟩
                · exact Or.inr z
              · rw [if_neg (fun z => c z.2), if_pos hj, if_neg (fun z => c (h3.mp z))]
                exact Or.inl ⟨hj, Nat.le_refl _, rfl⟩
        exact key 10 (s + 1) (t - (s + 1)) (Nat.le_refl _) (by omega) rfl
      have h0s : (0 < σ 21 s) ↔ ¬ σ 21 s = 0 := by
        rcases c s (by omega) with z | ⟨z, z1, z2⟩
        · rw [z]; decide
        · rw [z2]
          exact ⟨fun _ => nI_ne0 (by omega) (by omega), fun _ => nI_lt (a := 0) (by omega) (by omega)⟩
      constructor
      · rintro ⟨p1, p2, p3, p4, p5, p6, q, p7, p8, p9, p10, p11⟩
        refine ⟨p1, p2, h0s.mpr (fun z => p3 (w1.mpr z)), by rw [← b2]; exact p5, by rw [← b3]; exact p6, fun z => p4 ((w2 i hi).mpr z), ?_⟩
        rcases hnx with ⟨x1, x2, x3⟩ | ⟨x1, x2⟩
        · have eq : q = nxM σ t s := by
            rw [x3] at p7
            exact ((nI_eq (by omega) (by omega)).mp p7).symm
          rw [← eq]
          obtain ⟨y1, y2⟩ := h.st.w n12 (q := q) (by omega) (by omega)
          exact ⟨p9, (y2 i hi).mp p10, by rw [← (b q (by omega) (by omega)).2.1]; exact p11⟩
        · rw [x2] at p7
          exact absurd p7 (fun w2 => by
            have : (nI q) < 0 := by rw [← w2]; decide
            exact nI_pos (by omega) this)
      · rintro ⟨p1, p2, p3, p4, p5, p6, p7, p8, p9⟩
        refine ⟨p1, p2, fun z => h0s.mp p3 (w1.mp z), fun z => p6 ((w2 i hi).mp z), by rw [b2]; exact p4, by rw [b3]; exact p5, ?_⟩
        rcases hnx with ⟨x1, x2, x3⟩ | ⟨x1, x2⟩
        · obtain ⟨y1, y2⟩ := h.st.w n12 (q := nxM σ t s) (by omega) (by omega)
          exact ⟨nxM σ t s, x3, by omega, x1, (y2 i hi).mpr p8, by rw [(b (nxM σ t s) (by omega) (by omega)).2.1]; exact p9⟩
        · exact absurd p7 x1
    · exact ⟨fun z => absurd z.2.1 hs2, fun z => absurd z.2.1 hs2⟩
  · exact ⟨fun z => absurd z.1 hs, fun z => absurd z.1 hs⟩
/-! the answers -/
theorem Sim.nodeIs (h : Sim n m t τ σ) {i : Nat} (hi : i < n) (p : Int32) : nIs (τ 3 i) p = nIsM σ i p := by
  obtain ⟨a0, a1, a2, a3, a4, a6, a7, a8, ah, ap, aq, al, an, ak⟩ := h.sn hi
  have e5 : τ 3 i 5 = if σ 6 i = 1 then σ 7 i else -1 := by
    by_cases c : σ 6 i = 1
    · rw [if_pos c]; exact (al c).1
    · rw [if_neg c]; exact an c
  unfold nIs nIsM
  rw [a0, a1, a3, a4, a6, a7, e5]
theorem Sim.money : ∀ (h : Sim n m t τ σ), monM τ (monN τ n) m = moMM σ (moNM σ n) m := fun h => by
  have e1 : ∀ k, k ≤ n → monN τ k = moNM σ k := by
    intro k
    induction k with
    | zero => exact fun _ => rfl
    | succ k ih =>
      intro hk
      show monN τ k + (τ 3 k 0 + τ 3 k 1) = moNM σ k + (σ 2 k + σ 3 k)
      rw [ih (by omega), (h.sn (show k < n by omega)).1, (h.sn (show k < n by omega)).2.1]
  rw [e1 n (Nat.le_refl n)]
  generalize moNM σ n = w
  have e2 : ∀ k, k ≤ m → monM τ w k = moMM σ w k := by
    intro k
    induction k with
    | zero => exact fun _ => rfl
    | succ k ih =>
      intro hk
      obtain ⟨hh, pl, a1, a2, a3, a4, a5, a6, a7, -⟩ := h.sm (show k < m by omega)
      show (if τ 6 k 0 = 0 then monM τ w k + τ 7 k 1 else monM τ w k) = moMM σ w k + (if σ 13 k = 0 then σ 16 k else 0)
      rw [ih (by omega), a7, a6]
      by_cases c : σ 13 k = 0
      · rw [if_pos c, if_pos c]
      · rw [if_neg c, if_neg c, Int32.add_zero]
  exact e2 m (Nat.le_refl m)
theorem Sim.message (h : Sim n m t τ σ) {i : Nat} (hi : i < m) (p : Int32) : mIs (τ 6 i) (τ 7 i) (τ 8 i) p = mIsM σ i p ∧ ∃ pl, σ 15 i = nI pl ∧ pl ≤ 12 := by
  obtain ⟨hh, pl, a1, a2, a3, a4, a5, a6, a7, a8, a9, a10, a11, a12, a13⟩ := h.sm hi
  have hpl : pl ≤ hh := by rcases a11 with ⟨_, z, _⟩ | ⟨_, _, z, _⟩ <;> omega
  refine ⟨?_, pl, a4, by omega⟩
  have e1 : onA (τ 8 i) (τ 7 i 0) (τ 6 i 1) (-1) = σ 19 (13 * i + ix (σ 15 i)) := by
    rw [a5, a8, on_in hpl a3, a4, ix_nI (by omega)]
    exact (a12 pl hpl).1
  have e4 : τ 6 i 2 = if σ 13 i = 0 then σ 15 i else σ 15 i - 1 := by
    rcases a11 with ⟨z1, z2, z3⟩ | ⟨z1, z2, z3, z4⟩
    · rw [if_pos z1, z3, a4]
    · have hne : ¬ σ 13 i = 0 := by rcases z1 with z | z <;> rw [z] <;> decide
      rw [if_neg hne, z4, a4]
      exact (pk_sub (a := pl) (b := 1) z2).symm
  unfold mIs mIsM
  rw [e1, a7, a6, a9, a10, e4]
theorem Sim.way (h : Sim n m t τ σ) {i : Nat} (hi : i < m) {b : Nat} (hb : b < 2 ^ 31) : ∃ hh, σ 14 i = nI hh ∧ hh ≤ 11 ∧ onA (τ 8 i) (τ 7 i 0) (nI b) (-1) = if hh < b then -1 else σ 19 (13 * i + b) := by
  obtain ⟨hh, pl, a1, a2, a3, a4, a5, a6, a7, a8, a9, a10, a11, a12, a13⟩ := h.sm hi
  refine ⟨hh, a1, a3, ?_⟩
  rw [a5]
  by_cases c : hh < b
  · rw [if_pos c, on_out c hb]
  · rw [if_neg c, on_in (by omega) a3]
    exact (a12 b (by omega)).1
theorem Sim.join_ok (h : Sim n m t τ σ) {i : Nat} (hi : i < n) {q : Int32} (hq : inR q 0 9999) : (τ 3 i 4 = 0 ∨ (τ 3 i 4 = 2 ∧ q = 0) ∨ τ 3 i 0 < q) ↔ ¬ (¬ σ 6 i = 0 ∧ ¬ σ 2 i < q ∧ (σ 6 i = 1 ∨ 0 < q)) := by
  obtain ⟨a0, _, _, _, a4, _, _, _, ah, _⟩ := h.sn hi
  obtain ⟨k, k1, k2⟩ := inR_nI (k := 9999) rfl hq
  have hq0 : 0 < q ↔ ¬ q = 0 := by
    rw [k2]
    rcases Nat.eq_zero_or_pos k with z | z
    · rw [z]; decide
    · exact ⟨fun _ => nI_ne0 z (by omega), fun _ => nI_lt (a := 0) z (by omega)⟩
  rw [a0, a4, hq0]
  rcases ah with z | z | z <;> rw [z] <;> by_cases c : q = 0 <;> by_cases d : σ 2 i < q <;> simp [c, d]
end Simul
