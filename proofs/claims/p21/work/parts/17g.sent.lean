/-! ===== the search doesn't see what lay in its rows; a message that was sent ===== -/
section CongS
variable {nd : Nat → Nat → Int32} {b b' : Nat → Int32} {e : Nat}
def a12 (b b' : Nat → Int32) : Prop := ∀ k, k < 12 → b k = b' k
theorem ovN_c (h : a12 b b') {i j : Nat} (hj : j < 12) : ovN nd b e i j = ovN nd b' e i j := by
  unfold ovN
  rw [h j hj]
theorem lfN_c (h : a12 b b') {i : Nat} : ∀ r, r ≤ 12 → lfN nd b e i r = lfN nd b' e i r
  | 0, _ => rfl
  | r + 1, hr => by
    show (if ovN nd b e i r < lfN nd b e i r then ovN nd b e i r else lfN nd b e i r) = if ovN nd b' e i r < lfN nd b' e i r then ovN nd b' e i r else lfN nd b' e i r
    rw [ovN_c h (by omega), lfN_c h r (by omega)]
theorem lnX_c (h : a12 b b') {i : Nat} (hi : i < 12) : ∀ r a, a + r ≤ 12 → lnX nd b e i r a = lnX nd b' e i r a
  | 0, _, _ => rfl
  | r + 1, a, hr => by
    show (if ovN nd b e i a = b i then a else lnX nd b e i r (a + 1)) = if ovN nd b' e i a = b' i then a else lnX nd b' e i r (a + 1)
    rw [ovN_c h (by omega), h i hi, lnX_c h hi r (a + 1) (by omega)]
theorem rdB_c (h : a12 b b') {n : Nat} (hn : n ≤ 12) : ∀ k, k ≤ 12 → a12 (rdB nd n e b k).1 (rdB nd n e b' k).1 ∧ (rdB nd n e b k).2 = (rdB nd n e b' k).2
  | 0, _ => ⟨h, rfl⟩
  | k + 1, hk => by
    obtain ⟨i1, i2⟩ := rdB_c h hn k (by omega)
    have e1 : rdB nd n e b (k + 1) = if lfN nd (rdB nd n e b k).1 e k n < (rdB nd n e b k).1 k then (upd (rdB nd n e b k).1 k (lfN nd (rdB nd n e b k).1 e k n), 1) else rdB nd n e b k := rfl
    have e2 : rdB nd n e b' (k + 1) = if lfN nd (rdB nd n e b' k).1 e k n < (rdB nd n e b' k).1 k then (upd (rdB nd n e b' k).1 k (lfN nd (rdB nd n e b' k).1 e k n), 1) else rdB nd n e b' k := rfl
    rw [e1, e2, lfN_c i1 n hn, i1 k (by omega)]
    split
    · refine ⟨fun q hq => ?_, rfl⟩
      show upd _ _ _ q = upd _ _ _ q
      by_cases c : q = k
      · subst c; rw [upd_s, upd_s]
      · rw [upd_n c, upd_n c]; exact i1 q hq
    · exact ⟨i1, i2⟩
theorem waB_c {n : Nat} (hn : n ≤ 12) : ∀ R (b b' : Nat → Int32), a12 b b' → a12 (waB nd n e R b) (waB nd n e R b')
  | 0, _, _, h => h
  | R + 1, b, b', h => by
    obtain ⟨i1, i2⟩ := rdB_c (nd := nd) (e := e) h hn n hn
    have e1 : waB nd n e (R + 1) b = if (rdB nd n e b n).2 = 0 then (rdB nd n e b n).1 else waB nd n e R (rdB nd n e b n).1 := rfl
    have e2 : waB nd n e (R + 1) b' = if (rdB nd n e b' n).2 = 0 then (rdB nd n e b' n).1 else waB nd n e R (rdB nd n e b' n).1 := rfl
    rw [e1, e2, i2]
    split
    · exact i1
    · exact waB_c hn R _ _ i1
theorem pth_c (h : a12 b b') {n fr : Nat} (hn : n ≤ 12) (he : e < n) (hf : fr < n) : ∀ k, pth nd b e n fr k = pth nd b' e n fr k
  | 0 => rfl
  | k + 1 => by
    show lnX nd b e (pth nd b e n fr k) n 0 = lnX nd b' e (pth nd b' e n fr k) n 0
    rw [pth_c h hn he hf k]
    have := pth_lt (nd := nd) (b := b') (n := n) he hf k
    exact lnX_c h (by omega) n 0 (by omega)
end CongS
section Wayc
variable {τ τ' : T3} {n i j : Nat}
theorem wBF_c (h3 : τ' 3 = τ 3) (hn : n ≤ 12) : a12 (wBF τ' n j) (wBF τ n j) := by
  unfold wBF
  rw [h3]
  refine waB_c hn 12 _ _ (fun k hk => ?_)
  rw [ini_v, ini_v, if_pos hk, if_pos hk]
theorem pth_eq (h3 : τ' 3 = τ 3) (hn : n ≤ 12) (hi : i < n) (hj : j < n) : pth (τ' 3) (wBF τ' n j) j n i = pth (τ 3) (wBF τ n j) j n i := by
  rw [h3]
  exact funext fun k => pth_c (wBF_c h3 hn) hn hj hi k
theorem pgs_eq (h3 : τ' 3 = τ 3) (hn : n ≤ 12) (hi : i < n) (hj : j < n) : pgs (τ' 3) (wBF τ' n j) j n i = pgs (τ 3) (wBF τ n j) j n i := by
  funext k
  unfold pgs
  rw [pth_eq h3 hn hi hj, h3]
theorem wayP_c (h3 : τ' 3 = τ 3) (hn : n ≤ 12) (hi : i < n) (hj : j < n) {h : Nat} : wayP τ' n i j h ↔ wayP τ n i j h := by
  unfold wayP
  rw [wBF_c h3 hn i (by omega), pth_eq h3 hn hi hj]
theorem noW_c (h3 : τ' 3 = τ 3) (hn : n ≤ 12) (hi : i < n) (hj : j < n) : noW τ' n i j ↔ noW τ n i j := by
  unfold noW
  rw [wBF_c h3 hn i (by omega), pth_eq h3 hn hi hj]
theorem wcost_c (h3 : τ' 3 = τ 3) (hn : n ≤ 12) (hi : i < n) (hj : j < n) {h : Nat} : wcost τ' n i j h = wcost τ n i j h := by
  unfold wcost
  rw [pgs_eq h3 hn hi hj]
end Wayc
/-- a message that was sent over hh hops, by the nodes pa, for c -/
def SNT (T τ : T3) (m i hh c : Nat) (pa : Nat → Nat) : Prop :=
  (∀ y k, k ≠ 0 ∨ y ≠ i → T 3 y k = τ 3 y k) ∧ T 3 i 0 = nI (ix (τ 3 i 0) - c) ∧ (∀ q, T 6 m q = 0) ∧ T 7 m 0 = nI hh ∧ T 7 m 1 = nI c ∧ ∀ q, q ≤ hh → T 8 m q = nI (pa q)
theorem sent_inv {m t mo : Nat} {τ τ2 : T3} (h : INV 7 m t τ mo) (hm : m < 60) {i j hh : Nat} {g : Nat → Nat} (hi : i < 7) (hj : j < 7) (ho : oth τ2 τ) (hF : FDs (τ 3) (wBF τ 7 j) j 7 i hh τ2) (h1 : 1 ≤ hh) (h11 : hh ≤ 11)
    (hd : ∀ q r, q < r → r ≤ hh → pth (τ 3) (wBF τ 7 j) j 7 i q ≠ pth (τ 3) (wBF τ 7 j) j 7 i r) (hg : ∀ q, q ≤ hh → g q ≤ 50 ∧ pgs (τ 3) (wBF τ 7 j) j 7 i q = nI (g q)) (hc : wcost τ 7 i j hh = nI (psum g (hh - 1))) (hcb : psum g (hh - 1) ≤ 550) (hp : ¬ τ 3 i 0 < wcost τ 7 i j hh) :
    INV 7 (m + 1) t (tauM (tset τ2 3 i (upd (τ2 3 i) 0 (τ2 3 i 0 - wcost τ 7 i j hh))) m (fun _ => 0) (pr2 (nI hh) (wcost τ 7 i j hh)) (cpj (τ2 13 0) (fun _ => 0) (hh + 1)) (cpj (τ2 14 0) (fun _ => 0) (hh + 1))) mo ∧
    SNT (tauM (tset τ2 3 i (upd (τ2 3 i) 0 (τ2 3 i 0 - wcost τ 7 i j hh))) m (fun _ => 0) (pr2 (nI hh) (wcost τ 7 i j hh)) (cpj (τ2 13 0) (fun _ => 0) (hh + 1)) (cpj (τ2 14 0) (fun _ => 0) (hh + 1))) τ m i hh (psum g (hh - 1)) (pth (τ 3) (wBF τ 7 j) j 7 i) := by
  have e3 : τ2 3 = τ 3 := ho 3 (by decide) (by decide) (by decide) (by decide)
  have hI2 := h.oth ho
  obtain ⟨d0, -, hl⟩ := h.le hi
  have hpc : psum g (hh - 1) ≤ ix (τ 3 i 0) := by
    rw [hc, d0, nI_ltI (by omega) (by omega)] at hp
    omega
  obtain ⟨f1, f2, f3, f4⟩ := hF
  have hlt : ∀ q, pth (τ 3) (wBF τ 7 j) j 7 i q < 7 := fun q => pth_lt hj hi q
  have c8 : ∀ q, q ≤ hh → cpj (τ2 13 0) (fun _ => 0) (hh + 1) q = nI (pth (τ 3) (wBF τ 7 j) j 7 i q) := fun q hq => by
    unfold cpj
    rw [if_pos (by omega), f3 q hq]
  have c9 : ∀ q, q ≤ hh → cpj (τ2 14 0) (fun _ => 0) (hh + 1) q = nI (g q) := fun q hq => by
    unfold cpj
    rw [if_pos (by omega), f4 q hq, (hg q hq).2]
  have hM : MSI (fun _ => 0) (pr2 (nI hh) (wcost τ 7 i j hh)) (cpj (τ2 13 0) (fun _ => 0) (hh + 1)) (cpj (τ2 14 0) (fun _ => 0) (hh + 1)) 7 := by
    refine ⟨hh, 0, g, ⟨h1, h11, rfl, rfl⟩, fun q hq => ⟨_, hlt q, c8 q hq⟩, fun q r hqr hr z => ?_, fun q hq => ⟨(hg q hq).1, c9 q hq⟩, hc, Or.inl ⟨rfl, by omega, rfl, rfl, rfl⟩⟩
    rw [c8 q (by omega), c8 r hr] at z
    have a1 := hlt q
    have a2 := hlt r
    exact hd q r hqr hr ((nI_eq (by omega) (by omega)).mp z)
  rw [hc]
  rw [hc] at hM
  refine ⟨hI2.send hm hi (by rw [e3]; exact hpc) hM rfl rfl rfl, fun y k hk => ?_, ?_, fun q => ?_, ?_, ?_, fun q hq => ?_⟩
  · rw [tauM_r (by decide) (by decide), e3]
    by_cases c : y = i
    · subst c
      rw [tset_s, upd_n (by omega)]
    · rw [tset_n (fun z => c z.2), e3]
  · rw [tauM_r (by decide) (by decide), e3, tset_s, upd_s, ← pk_sub hpc, ← d0]
  · rw [tauM_m.1]
  · rw [tauM_m.2.1]; rfl
  · rw [tauM_m.2.1]; rfl
  · rw [tauM_m.2.2.1]; exact c8 q hq
