/-! ===== what the class's search finds: the least walk, by nodes that are all apart ===== -/
section CWay
variable {n e : Nat} {E : Nat → Nat → Prop} {s f : Nat → Nat} {nd : Nat → Nat → Int32} {b : Nat → Int32}
/-- the sum of the weights of the first q nodes behind the first -/
def wsum (s : Nat → Nat) (p : Nat → Nat) : Nat → Nat
  | 0 => 0
  | q + 1 => wsum s p q + s (p (q + 1))
theorem lnX_spec {i : Nat} : ∀ (r a : Nat), (∃ j, a ≤ j ∧ j < a + r ∧ ovN nd b e i j = b i) → a ≤ lnX nd b e i r a ∧ lnX nd b e i r a < a + r ∧ ovN nd b e i (lnX nd b e i r a) = b i
  | 0, a, ⟨j, h1, h2, _⟩ => by omega
  | r + 1, a, ⟨j, h1, h2, h3⟩ => by
    show a ≤ (if ovN nd b e i a = b i then a else lnX nd b e i r (a + 1)) ∧ (if ovN nd b e i a = b i then a else lnX nd b e i r (a + 1)) < a + (r + 1) ∧ ovN nd b e i (if ovN nd b e i a = b i then a else lnX nd b e i r (a + 1)) = b i
    by_cases c : ovN nd b e i a = b i
    · rw [if_pos c]; exact ⟨Nat.le_refl _, by omega, c⟩
    · rw [if_neg c]
      have hja : a ≠ j := fun z => c (by rw [z]; exact h3)
      obtain ⟨q1, q2, q3⟩ := lnX_spec r (a + 1) ⟨j, by omega, by omega, h3⟩
      exact ⟨by omega, by omega, q3⟩
/-- labels: a finite one is the least walk's; each node but the end hands on to a next one -/
theorem cw_lab (g : GRc n e E s nd) (b0 : Nat → Int32) : ∃ f, rb n (waB nd n e 12 (iniB e b0 12)) f 900000 ∧ f e = 0 ∧ Cpl n e 100 E s 12 f ∧
    (∀ k, k < n → f k < 1000000 → f k % 100 ≤ 11 ∧ f k / 100 ≤ 660 ∧ (f k % 100 = 0 → k = e)) ∧
    (∀ k, k < n → f k < 1000000 → k ≠ e → ∃ j, j < n ∧ E k j ∧ f j < 1000000 ∧ f k = 100 * s j + 1 + f j) := by
  obtain ⟨f, f1, f2, f3, f4⟩ := cs_spec g b0
  obtain ⟨he, hn12, hse, hs60, -, -⟩ := g
  have hn1 : n ≤ (n - 1) + 1 := by omega
  have best : ∀ k, k < n → f k < 1000000 → ∃ c h, Wk n e E s (n - 1) k c h ∧ f k = 100 * c + h ∧ c ≤ 660 ∧ h ≤ 11 := fun k hk hI => by
    obtain ⟨c1, h1, w1, q1⟩ := f3.best hn1 hk hI
    have z1 := w1.hle
    have y1 := w1.cle hs60
    have p1 := f4 k c1 h1 hk (w1.upn (by omega))
    exact ⟨c1, h1, w1, by omega, by omega, by omega⟩
  refine ⟨f, f1, f2, f4, fun k hk hI => ?_, fun k hk hI hne => ?_⟩
  · obtain ⟨c, h, w, q1, q2, q3⟩ := best k hk hI
    refine ⟨by omega, by omega, fun z => ?_⟩
    by_cases hke : k = e
    · exact hke
    · exfalso
      obtain ⟨r, hr⟩ : ∃ r, n - 1 = r + 1 ∨ n - 1 = 0 := ⟨n - 2, by omega⟩
      rcases hr with hr | hr
      · rw [hr] at w
        rcases w with ⟨a, _, _⟩ | ⟨_, j, c1, h1, _, _, _, _, a⟩
        · exact hke a
        · omega
      · rw [hr] at w
        exact hke w.1
  · rcases f3 k hk hI with a | ⟨_, j, hj, hE, hjI, hle⟩
    · exact absurd a hne
    · obtain ⟨c, h, w, q1, q2, q3⟩ := best j hj hjI
      have wk : Wk n e E s ((n - 1) + 1) k (s j + c) (h + 1) := Or.inr ⟨hne, j, c, h, hj, hE, w, rfl, rfl⟩
      have hk1 := f4 k _ _ hk (wk.upn (by omega))
      rw [Nat.mul_add] at hk1
      exact ⟨j, hj, hE, hjI, by omega⟩
/-- NO WAY, and no walk; or the way, whose weight and hops are the least -/
theorem cw_way (g : GRc n e E s nd) (b0 : Nat → Int32) {fr : Nat} (hf : fr < n) :
    (waB nd n e 12 (iniB e b0 12) fr = FAR ∧ ∀ c h, c ≤ 720 → h ≤ 12 → ¬ Wk n e E s 12 fr c h) ∨
    ∃ h, waB nd n e 12 (iniB e b0 12) fr ≠ FAR ∧ h ≤ 11 ∧ (∀ q, q < h → pth nd (waB nd n e 12 (iniB e b0 12)) e n fr q ≠ e) ∧ pth nd (waB nd n e 12 (iniB e b0 12)) e n fr h = e ∧
      (∀ q, q < h → E (pth nd (waB nd n e 12 (iniB e b0 12)) e n fr q) (pth nd (waB nd n e 12 (iniB e b0 12)) e n fr (q + 1))) ∧
      (∀ q r, q < r → r ≤ h → pth nd (waB nd n e 12 (iniB e b0 12)) e n fr q ≠ pth nd (waB nd n e 12 (iniB e b0 12)) e n fr r) ∧
      ∀ c h', Wk n e E s 12 fr c h' → 100 * wsum s (pth nd (waB nd n e 12 (iniB e b0 12)) e n fr) h + h ≤ 100 * c + h' := by
  obtain ⟨f, f1, f2, f4, f5, f6⟩ := cw_lab g b0
  have he := g.1
  generalize waB nd n e 12 (iniB e b0 12) = b at f1 ⊢
  have hFI : ∀ k, k < n → (b k ≠ FAR ↔ f k < 1000000) := fun k hk => by
    have := (f1 k hk).2
    rw [(f1 k hk).1, farI]
    constructor
    · intro h
      have : f k ≠ 1000000 := fun z => h (by rw [z])
      omega
    · intro h z
      have := (nI_eq (by omega) (by decide)).mp z
      omega
  -- the next node
  have nx : ∀ i, i < n → f i < 1000000 → i ≠ e → ∃ j, j < n ∧ lnX nd b e i n 0 = j ∧ E i j ∧ f j < 1000000 ∧ f i = 100 * s j + 1 + f j := fun i hi hI hie => by
    obtain ⟨j, hj, hE, hjI, ev⟩ := f6 i hi hI hie
    have hov : ovN nd b e i j = b i := by rw [ov_yes g f1 (by decide) f2 hi hj hE hjI, (f1 i hi).1, ev]
    obtain ⟨q1, q2, q3⟩ := lnX_spec (nd := nd) (b := b) (e := e) (i := i) n 0 ⟨j, by omega, by omega, hov⟩
    refine ⟨lnX nd b e i n 0, by omega, rfl, ?_⟩
    generalize lnX nd b e i n 0 = z at q1 q2 q3
    by_cases c : E i z ∧ f z < 1000000
    · rw [ov_yes g f1 (by decide) f2 hi (by omega) c.1 c.2, (f1 i hi).1] at q3
      have hz := (f1 z (by omega)).2
      have hsz := g.2.2.2.1 z (by omega)
      exact ⟨c.1, c.2, ((nI_eq (by omega) (by omega)).mp q3).symm⟩
    · rw [ov_no g f1 (by decide) f2 hi (by omega) c] at q3
      exact absurd q3.symm ((hFI i hi).mpr hI)
  by_cases hF : f fr < 1000000
  · refine Or.inr ⟨f fr % 100, (hFI fr hf).mpr hF, (f5 fr hf hF).1, ?_⟩
    have st : ∀ q, q ≤ f fr % 100 → pth nd b e n fr q < n ∧ f (pth nd b e n fr q) < 1000000 ∧ f (pth nd b e n fr q) % 100 + q = f fr % 100 ∧ f fr = 100 * wsum s (pth nd b e n fr) q + q + f (pth nd b e n fr q) ∧ ∀ r, r < q → E (pth nd b e n fr r) (pth nd b e n fr (r + 1)) := by
      intro q
      induction q with
      | zero => exact fun _ => ⟨hf, hF, rfl, by show f fr = 100 * 0 + 0 + f fr; omega, fun r hr => by omega⟩
      | succ q ih =>
        intro hq
        obtain ⟨p1, p2, p3, p4, p5⟩ := ih (by omega)
        have hpe : pth nd b e n fr q ≠ e := fun z => by
          rw [z, f2] at p3
          omega
        obtain ⟨j, j1, j2, j3, j4, j5⟩ := nx _ p1 p2 hpe
        have e1 : pth nd b e n fr (q + 1) = j := j2
        have hj := f5 j j1 j4
        have hq' := f5 _ p1 p2
        have hws : wsum s (pth nd b e n fr) (q + 1) = wsum s (pth nd b e n fr) q + s (pth nd b e n fr (q + 1)) := rfl
        rw [hws]
        rw [e1]
        refine ⟨j1, j4, by omega, by omega, fun r hr => ?_⟩
        by_cases c : r = q
        · subst c; rw [e1]; exact j3
        · exact p5 r (by omega)
    have ne : ∀ q, q < f fr % 100 → pth nd b e n fr q ≠ e := fun q hq z => by
      obtain ⟨p1, p2, p3, p4, p5⟩ := st q (by omega)
      rw [z, f2] at p3
      omega
    have en : pth nd b e n fr (f fr % 100) = e := by
      obtain ⟨p1, p2, p3, p4, p5⟩ := st (f fr % 100) (Nat.le_refl _)
      exact (f5 _ p1 p2).2.2 (by omega)
    refine ⟨ne, en, (st _ (Nat.le_refl _)).2.2.2.2, fun q r hqr hr z => ?_, fun c h' w => ?_⟩
    · obtain ⟨p1, p2, p3, p4, p5⟩ := st q (by omega)
      obtain ⟨r1, r2, r3, r4, r5⟩ := st r hr
      rw [z] at p3
      omega
    · have h1 := f4 fr c h' hf w
      have h2 := (st _ (Nat.le_refl _)).2.2.2.1
      rw [en, f2] at h2
      omega
  · refine Or.inl ⟨?_, fun c h' hc hh w => ?_⟩
    · have := (f1 fr hf).2
      rw [(f1 fr hf).1, farI, show f fr = 1000000 by omega]
    · have h1 := f4 fr c h' hf w
      omega
end CWay
