/-! ===== shortest walks by cost and hops: labels that are supported and complete are the least walks ===== -/
def Wk (n e : Nat) (E : Nat → Nat → Prop) (s : Nat → Nat) : Nat → Nat → Nat → Nat → Prop
  | 0, k, c, h => k = e ∧ c = 0 ∧ h = 0
  | r + 1, k, c, h => (k = e ∧ c = 0 ∧ h = 0) ∨ (k ≠ e ∧ ∃ j c' h', j < n ∧ E k j ∧ Wk n e E s r j c' h' ∧ c = s j + c' ∧ h = h' + 1)
def Sup (n e B I : Nat) (E : Nat → Nat → Prop) (s f : Nat → Nat) : Prop := ∀ k, k < n → f k < I → k = e ∨ (k ≠ e ∧ ∃ j, j < n ∧ E k j ∧ f j < I ∧ B * s j + 1 + f j ≤ f k)
def Cpl (n e B : Nat) (E : Nat → Nat → Prop) (s : Nat → Nat) (r : Nat) (f : Nat → Nat) : Prop := ∀ k c h, k < n → Wk n e E s r k c h → f k ≤ B * c + h
def upN (f : Nat → Nat) (k v : Nat) : Nat → Nat := fun i => if i = k then v else f i
theorem upN_s {f : Nat → Nat} {k v : Nat} : upN f k v k = v := if_pos rfl
theorem upN_n {f : Nat → Nat} {k v i : Nat} (h : i ≠ k) : upN f k v i = f i := if_neg h
theorem cnt_mono {p q : Nat → Bool} : ∀ (n : Nat), (∀ k, k < n → p k = true → q k = true) → fa_cnt p n ≤ fa_cnt q n
  | 0, _ => Nat.le_refl 0
  | n + 1, h => by
    have ih := cnt_mono n (fun k hk => h k (by omega))
    show fa_cnt p n + (if p n = true then 1 else 0) ≤ fa_cnt q n + (if q n = true then 1 else 0)
    by_cases e : p n = true
    · rw [if_pos e, if_pos (h n (by omega) e)]; omega
    · rw [if_neg e]; split <;> omega
theorem cnt_lt {p q : Nat → Bool} : ∀ (n : Nat), (∀ k, k < n → p k = true → q k = true) → ∀ y, y < n → p y = false → q y = true → fa_cnt p n < fa_cnt q n
  | 0, _, y, hy, _, _ => by omega
  | n + 1, h, y, hy, h1, h2 => by
    show fa_cnt p n + (if p n = true then 1 else 0) < fa_cnt q n + (if q n = true then 1 else 0)
    by_cases ey : y = n
    · subst ey
      have ih := cnt_mono y (fun k hk => h k (by omega))
      rw [if_neg (by rw [h1]; decide), if_pos h2]; omega
    · have ih := cnt_lt n (fun k hk => h k (by omega)) y (by omega) h1 h2
      by_cases e : p n = true
      · rw [if_pos e, if_pos (h n (by omega) e)]; omega
      · rw [if_neg e]; split <;> omega
section Walks
variable {n e B I : Nat} {E : Nat → Nat → Prop} {s f : Nat → Nat}
theorem Wk.atE : ∀ (r : Nat), Wk n e E s r e 0 0
  | 0 => ⟨rfl, rfl, rfl⟩
  | _ + 1 => Or.inl ⟨rfl, rfl, rfl⟩
theorem Wk.hle : ∀ {r k c h : Nat}, Wk n e E s r k c h → h ≤ r
  | 0, _, _, _, w => by have := w.2.2; omega
  | r + 1, _, _, _, w => by
    rcases w with ⟨_, _, h0⟩ | ⟨_, j, c', h', _, _, w', _, h0⟩
    · omega
    · have := Wk.hle w'; omega
theorem Wk.cle (hs : ∀ j, j < n → s j ≤ 60) : ∀ {r k c h : Nat}, Wk n e E s r k c h → c ≤ 60 * r
  | 0, _, _, _, w => by have := w.2.1; omega
  | r + 1, _, _, _, w => by
    rcases w with ⟨_, h0, _⟩ | ⟨_, j, c', h', hj, _, w', h0, _⟩
    · omega
    · have := Wk.cle hs w'; have := hs j hj; omega
theorem Wk.up : ∀ {r k c h : Nat}, Wk n e E s r k c h → Wk n e E s (r + 1) k c h
  | 0, _, _, _, w => Or.inl w
  | r + 1, _, _, _, w => by
    rcases w with w | ⟨h1, j, c', h', h2, h3, w', h4, h5⟩
    · exact Or.inl w
    · exact Or.inr ⟨h1, j, c', h', h2, h3, Wk.up w', h4, h5⟩
theorem Wk.upd {r k c h : Nat} (w : Wk n e E s r k c h) : ∀ d, Wk n e E s (r + d) k c h
  | 0 => w
  | d + 1 => Wk.up (Wk.upd w d)
theorem Wk.upn {r q k c h : Nat} (hq : r ≤ q) (w : Wk n e E s r k c h) : Wk n e E s q k c h := by
  have := w.upd (q - r)
  rwa [show r + (q - r) = q by omega] at this
theorem Sup.walk (hf : Sup n e B I E s f) : ∀ (N k : Nat), k < n → f k < I → fa_cnt (fun y => decide (f y < f k)) n ≤ N → ∃ c h, Wk n e E s N k c h ∧ B * c + h ≤ f k := by
  intro N
  induction N with
  | zero =>
    intro k hk hI hc
    rcases hf k hk hI with rfl | ⟨hne, j, hj, hE, hjI, hle⟩
    · exact ⟨0, 0, Wk.atE 0, by rw [Nat.mul_zero]; omega⟩
    · have key := cnt_lt (p := fun y => decide (f y < f j)) (q := fun y => decide (f y < f k)) n (fun y _ h => by
        have h := of_decide_eq_true h
        exact decide_eq_true (by omega)) j hj (decide_eq_false (by omega)) (decide_eq_true (by omega))
      omega
  | succ N ih =>
    intro k hk hI hc
    rcases hf k hk hI with rfl | ⟨hne, j, hj, hE, hjI, hle⟩
    · exact ⟨0, 0, Wk.atE _, by rw [Nat.mul_zero]; omega⟩
    · have key := cnt_lt (p := fun y => decide (f y < f j)) (q := fun y => decide (f y < f k)) n (fun y _ h => by
        have h := of_decide_eq_true h
        exact decide_eq_true (by omega)) j hj (decide_eq_false (by omega)) (decide_eq_true (by omega))
      obtain ⟨c', h', w', hb⟩ := ih j hj hjI (by omega)
      exact ⟨s j + c', h' + 1, Or.inr ⟨hne, j, c', h', hj, hE, w', rfl, rfl⟩, by rw [Nat.mul_add]; omega⟩
theorem Sup.best (hf : Sup n e B I E s f) {r k : Nat} (hn : n ≤ r + 1) (hk : k < n) (hI : f k < I) : ∃ c h, Wk n e E s r k c h ∧ B * c + h ≤ f k := by
  refine hf.walk r k hk hI ?_
  have h1 := cnt_lt (p := fun y => decide (f y < f k)) (q := fun _ => true) n (fun _ _ _ => rfl) k hk (decide_eq_false (by omega)) rfl
  have h2 := fa_cnt_le (fun _ => true) n
  omega
theorem Sup.relax (hf : Sup n e B I E s f) {k j v : Nat} (hk : k < n) (hne : k ≠ e) (hj : j < n) (hE : E k j) (hjI : f j < I) (hv : v = B * s j + 1 + f j) (hlt : v < f k) : Sup n e B I E s (upN f k v) := by
  intro i hi hI
  by_cases c : i = k
  · subst c
    have hjk : j ≠ i := fun q => by subst q; omega
    refine Or.inr ⟨hne, j, hj, hE, ?_, ?_⟩
    · rw [upN_n hjk]; exact hjI
    · rw [upN_n hjk, upN_s]; omega
  · rw [upN_n c] at hI ⊢
    rcases hf i hi hI with h | ⟨h1, j', h2, h3, h4, h5⟩
    · exact Or.inl h
    · refine Or.inr ⟨h1, j', h2, h3, ?_⟩
      by_cases c2 : j' = k
      · subst c2; rw [upN_s]; omega
      · rw [upN_n c2]; exact ⟨h4, h5⟩
theorem Cpl.step {f' : Nat → Nat} {r : Nat} (hs : ∀ j, j < n → s j ≤ 60) (hb : ∀ c h, c ≤ 60 * r → h ≤ r → B * c + h < I) (h0 : f' e = 0) (hrel : ∀ i, i < n → i ≠ e → ∀ j, j < n → E i j → f j < I → f' i ≤ B * s j + 1 + f j) (hC : Cpl n e B E s r f) : Cpl n e B E s (r + 1) f' := by
  intro k c h hk w
  rcases w with ⟨rfl, rfl, rfl⟩ | ⟨hne, j, c', h', hj, hE, w', rfl, rfl⟩
  · rw [h0]; exact Nat.zero_le _
  · have a := hC j c' h' hj w'
    have b := hrel k hk hne j hj hE (Nat.lt_of_le_of_lt a (hb c' h' (w'.cle hs) w'.hle))
    rw [Nat.mul_add]; omega
theorem Cpl.fix {r : Nat} (hs : ∀ j, j < n → s j ≤ 60) (hb : ∀ c h, c ≤ 720 → h ≤ 12 → B * c + h < I) (h0 : f e = 0) (hrel : ∀ i, i < n → i ≠ e → ∀ j, j < n → E i j → f j < I → f i ≤ B * s j + 1 + f j) (hC : Cpl n e B E s r f) : ∀ d, r + d ≤ 12 → Cpl n e B E s (r + d) f
  | 0, _ => hC
  | d + 1, h => Cpl.step (r := r + d) hs (fun c h h1 h2 => hb c h (by omega) (by omega)) h0 hrel (Cpl.fix hs hb h0 hrel hC d (by omega))
theorem Cpl.down {r q : Nat} (hq : q ≤ r) (hC : Cpl n e B E s r f) : Cpl n e B E s q f := fun k c h hk w => hC k c h hk (w.upn hq)
end Walks
/-! ===== the class's search ===== -/
/-- the graph: n nodes, the end, its links to nodes that may relay, their weights -/
def GRc (n e : Nat) (E : Nat → Nat → Prop) (s : Nat → Nat) (nd : Nat → Nat → Int32) : Prop := e < n ∧ n ≤ 12 ∧ s e = 0 ∧ (∀ j, j < n → s j ≤ 60) ∧ (∀ i j, i < n → j < n → (E i j ↔ lnkB (nd i 9) j = true ∧ (j = e ∨ rlyB (nd j) = true))) ∧ ∀ j, j < n → j ≠ e → wgt (nd j) = nI (s j)
theorem farI : FAR = nI 1000000 := rfl
def rb (n : Nat) (b : Nat → Int32) (f : Nat → Nat) (H : Nat) : Prop := ∀ k, k < n → b k = nI (f k) ∧ (f k ≤ H ∨ f k = 1000000)
section ClassSearch
variable {n e : Nat} {E : Nat → Nat → Prop} {s f : Nat → Nat} {nd : Nat → Nat → Int32} {b : Nat → Int32} {H : Nat}
theorem ov_yes (g : GRc n e E s nd) (hr : rb n b f H) (hH : H < 1000000) (h0 : f e = 0) {i j : Nat} (hi : i < n) (hj : j < n) (hE : E i j) (hI : f j < 1000000) : ovN nd b e i j = nI (100 * s j + 1 + f j) := by
  obtain ⟨g1, g2, g3, g4, g5, g6⟩ := g
  obtain ⟨hl, hor⟩ := (g5 i j hi hj).mp hE
  have hb := (hr j hj).1
  unfold ovN
  rw [if_pos hl]
  by_cases c : j = e
  · subst c
    rw [if_pos rfl, g3, h0]; rfl
  · rw [if_neg c]
    have hrl : rlyB (nd j) = true := hor.resolve_left c
    have hne : ¬ b j = FAR := by
      rw [hb, farI, nI_eq (by omega) (by decide)]; omega
    rw [if_pos ⟨hrl, hne⟩, g6 j hj c, hb]
    show nI (s j) * nI 100 + nI 1 + nI (f j) = _
    rw [pk_mul, nI_add, nI_add]
    congr 1; omega
theorem ov_no (g : GRc n e E s nd) (hr : rb n b f H) (hH : H < 1000000) (h0 : f e = 0) {i j : Nat} (hi : i < n) (hj : j < n) (h : ¬ (E i j ∧ f j < 1000000)) : ovN nd b e i j = FAR := by
  obtain ⟨g1, g2, g3, g4, g5, g6⟩ := g
  have hb := hr j hj
  unfold ovN
  by_cases hl : lnkB (nd i 9) j = true
  · rw [if_pos hl]
    by_cases c : j = e
    · subst c
      exact absurd ⟨(g5 i j hi hj).mpr ⟨hl, Or.inl rfl⟩, by rw [h0]; decide⟩ h
    · rw [if_neg c]
      refine if_neg fun q => h ⟨(g5 i j hi hj).mpr ⟨hl, Or.inr q.1⟩, ?_⟩
      have h2 := q.2
      rw [hb.1, farI] at h2
      have : f j ≠ 1000000 := fun z => h2 (by rw [z])
      have := hb.2
      omega
  · rw [if_neg hl]
theorem lf_spec (g : GRc n e E s nd) (hr : rb n b f H) (hH : H < 1000000) (h0 : f e = 0) {i : Nat} (hi : i < n) : ∀ r, r ≤ n → ∃ v, lfN nd b e i r = nI v ∧ v ≤ 1000000 ∧ (∀ j, j < r → E i j → f j < 1000000 → v ≤ 100 * s j + 1 + f j) ∧ (v = 1000000 ∨ ∃ j, j < r ∧ E i j ∧ f j < 1000000 ∧ v = 100 * s j + 1 + f j)
  | 0, _ => ⟨1000000, rfl, Nat.le_refl _, fun j hj => by omega, Or.inl rfl⟩
  | r + 1, hr1 => by
    obtain ⟨v, e1, e2, e3, e4⟩ := lf_spec g hr hH h0 hi r (by omega)
    have hrb := hr r (by omega)
    have hsr := g.2.2.2.1 r (by omega)
    have hun : lfN nd b e i (r + 1) = if ovN nd b e i r < lfN nd b e i r then ovN nd b e i r else lfN nd b e i r := rfl
    by_cases c : E i r ∧ f r < 1000000
    · have eo := ov_yes g hr hH h0 hi (show r < n by omega) c.1 c.2
      have hfr : f r ≤ H := by omega
      by_cases c2 : 100 * s r + 1 + f r < v
      · refine ⟨100 * s r + 1 + f r, ?_, by omega, fun j hj hE hI => ?_, Or.inr ⟨r, by omega, c.1, c.2, rfl⟩⟩
        · rw [hun, eo, e1, if_pos (nI_lt c2 (by omega))]
        · by_cases z : j = r
          · subst z; omega
          · have := e3 j (by omega) hE hI; omega
      · refine ⟨v, ?_, e2, fun j hj hE hI => ?_, e4.imp id fun ⟨j, h1, h2⟩ => ⟨j, by omega, h2⟩⟩
        · rw [hun, eo, e1, if_neg (nI_nlt (by omega) (by omega))]
        · by_cases z : j = r
          · subst z; omega
          · exact e3 j (by omega) hE hI
    · have eo := ov_no g hr hH h0 hi (show r < n by omega) c
      refine ⟨v, ?_, e2, fun j hj hE hI => ?_, e4.imp id fun ⟨j, h1, h2⟩ => ⟨j, by omega, h2⟩⟩
      · rw [hun, eo, e1, farI, if_neg (nI_nlt e2 (by decide))]
      · by_cases z : j = r
        · subst z; exact absurd ⟨hE, hI⟩ c
        · exact e3 j (by omega) hE hI
theorem rd_spec (g : GRc n e E s nd) (hr : rb n b f H) (hH : H + 80000 < 1000000) (h0 : f e = 0) (hS : Sup n e 100 1000000 E s f) : ∀ k, k ≤ n → ∃ f', rb n (rdB nd n e b k).1 f' (H + 6001 * k) ∧ f' e = 0 ∧ Sup n e 100 1000000 E s f' ∧ (∀ i, i < n → f' i ≤ f i) ∧ (∀ i, i < k → i ≠ e → ∀ j, j < n → E i j → f j < 1000000 → f' i ≤ 100 * s j + 1 + f j) ∧ ((rdB nd n e b k).2 = 0 → (rdB nd n e b k).1 = b)
  | 0, _ => ⟨f, hr, h0, hS, fun _ _ => Nat.le_refl _, fun i hi => by omega, fun _ => rfl⟩
  | k + 1, hk => by
    obtain ⟨f1, r1, r2, r3, r4, r5, r6⟩ := rd_spec g hr hH h0 hS k (by omega)
    have hn12 := g.2.1
    obtain ⟨v, e1, e2, e3, e4⟩ := lf_spec g r1 (by omega) r2 (show k < n by omega) n (Nat.le_refl n)
    have hkb := r1 k (by omega)
    have hun : rdB nd n e b (k + 1) = if lfN nd (rdB nd n e b k).1 e k n < (rdB nd n e b k).1 k then (upd (rdB nd n e b k).1 k (lfN nd (rdB nd n e b k).1 e k n), 1) else rdB nd n e b k := rfl
    by_cases c : v < f1 k
    · have hk31 : f1 k < 2 ^ 31 := by omega
      rcases e4 with e4 | ⟨j, hj, hE, hI, ev⟩
      · omega
      · have hke : k ≠ e := fun z => by rw [z, r2] at c; omega
        have hjb := r1 j hj
        have hsj := g.2.2.2.1 j hj
        have hjH : f1 j ≤ H + 6001 * k := hjb.2.resolve_right (Nat.ne_of_lt hI)
        have hvb : v ≤ H + 6001 * (k + 1) := by rw [ev]; omega
        rw [hun, e1, hkb.1, if_pos (nI_lt c hk31)]
        refine ⟨upN f1 k v, fun i hi => ?_, ?_, r3.relax (by omega) hke hj hE hI ev c, fun i hi => ?_, fun i hi hie j' hj' hE' hI' => ?_, fun z => by cases z⟩
        · by_cases z : i = k
          · subst z
            rw [upN_s]
            refine ⟨?_, Or.inl hvb⟩
            show upd (rdB nd n e b i).1 i (nI v) i = nI v
            exact upd_s
          · rw [upN_n z]
            refine ⟨by show upd _ _ _ i = _; rw [upd_n z]; exact (r1 i hi).1, ?_⟩
            have := (r1 i hi).2
            omega
        · rw [upN_n (Ne.symm hke)]; exact r2
        · by_cases z : i = k
          · subst z; rw [upN_s]; have := r4 i hi; omega
          · rw [upN_n z]; exact r4 i hi
        · by_cases z : i = k
          · subst z
            rw [upN_s]
            have := r4 j' hj'
            have := e3 j' hj' hE' (by omega)
            omega
          · rw [upN_n z]; exact r5 i (by omega) hie j' hj' hE' hI'
    · have hge : ¬ nI v < nI (f1 k) := nI_nlt (by omega) (by omega)
      rw [hun, e1, hkb.1, if_neg hge]
      refine ⟨f1, fun i hi => ⟨(r1 i hi).1, by have := (r1 i hi).2; omega⟩, r2, r3, r4, fun i hi hie j' hj' hE' hI' => ?_, r6⟩
      by_cases z : i = k
      · subst z
        have := r4 j' hj'
        have := e3 j' hj' hE' (by omega)
        omega
      · exact r5 i (by omega) hie j' hj' hE' hI'
theorem bC : ∀ c h, c ≤ 720 → h ≤ 12 → 100 * c + h < 1000000 := fun c h h1 h2 => by omega
theorem wa_spec (g : GRc n e E s nd) : ∀ (R : Nat) (b : Nat → Int32) (f : Nat → Nat) (r H : Nat), rb n b f H → H + 72012 * R + 80000 < 1000000 → f e = 0 → Sup n e 100 1000000 E s f → Cpl n e 100 E s r f → r + R ≤ 12 → ∃ f', rb n (waB nd n e R b) f' (H + 72012 * R) ∧ f' e = 0 ∧ Sup n e 100 1000000 E s f' ∧ Cpl n e 100 E s (r + R) f'
  | 0, b, f, r, H, hr, _, h0, hS, hC, _ => ⟨f, hr, h0, hS, hC⟩
  | R + 1, b, f, r, H, hr, hH, h0, hS, hC, hR => by
    obtain ⟨f1, r1, r2, r3, r4, r5, r6⟩ := rd_spec g hr (by omega) h0 hS n (Nat.le_refl n)
    have hn12 := g.2.1
    have hC1 : Cpl n e 100 E s (r + 1) f1 := Cpl.step (I := 1000000) g.2.2.2.1 (fun c h h1 h2 => bC c h (by omega) (by omega)) r2 r5 hC
    have hun : waB nd n e (R + 1) b = if (rdB nd n e b n).2 = 0 then (rdB nd n e b n).1 else waB nd n e R (rdB nd n e b n).1 := rfl
    have hb1 : rb n (rdB nd n e b n).1 f1 (H + 72012) := fun k hk => ⟨(r1 k hk).1, by have := (r1 k hk).2; omega⟩
    by_cases c : (rdB nd n e b n).2 = 0
    · rw [hun, if_pos c]
      refine ⟨f1, fun k hk => ⟨(r1 k hk).1, by have := (r1 k hk).2; omega⟩, r2, r3, ?_⟩
      have hbb := r6 c
      have hff : ∀ k, k < n → f k = f1 k := fun k hk => by
        have h1 := (r1 k hk).1
        rw [hbb, (hr k hk).1] at h1
        have a1 := (hr k hk).2
        have a2 := (r1 k hk).2
        exact (nI_eq (by omega) (by omega)).mp h1
      have hfix := Cpl.fix (I := 1000000) g.2.2.2.1 bC r2 (fun i hi hie j hj hE hI => by
        have h1 := hff j hj
        have h2 := r5 i hi hie j hj hE (by omega)
        omega) hC1 R (by omega)
      rwa [show r + 1 + R = r + (R + 1) by omega] at hfix
    · rw [hun, if_neg c]
      obtain ⟨f2, q1, q2, q3, q4⟩ := wa_spec g R _ f1 (r + 1) (H + 72012) hb1 (by omega) r2 r3 hC1 (by omega)
      refine ⟨f2, fun k hk => ⟨(q1 k hk).1, by have := (q1 k hk).2; omega⟩, q2, q3, ?_⟩
      rwa [show r + 1 + R = r + (R + 1) by omega] at q4
theorem ini_v {t : Nat} {b : Nat → Int32} : ∀ r k, iniB t b r k = if k < r then (if k = t then 0 else FAR) else b k
  | 0, k => by rw [if_neg (by omega)]; rfl
  | r + 1, k => by
    show upd (iniB t b r) r (if r = t then 0 else FAR) k = _
    by_cases c : k = r
    · subst c; rw [upd_s, if_pos (Nat.lt_succ_self _)]
    · rw [upd_n c, ini_v r k]
      by_cases c2 : k < r
      · rw [if_pos c2, if_pos (show k < r + 1 by omega)]
      · rw [if_neg c2, if_neg (show ¬ k < r + 1 by omega)]
/-- what the class's search finds: supported, complete -/
theorem cs_spec (g : GRc n e E s nd) (b0 : Nat → Int32) : ∃ f, rb n (waB nd n e 12 (iniB e b0 12)) f 900000 ∧ f e = 0 ∧ Sup n e 100 1000000 E s f ∧ Cpl n e 100 E s 12 f := by
  have hn12 := g.2.1
  obtain ⟨f, h1, h2, h3, h4⟩ := wa_spec g 12 (iniB e b0 12) (fun k => if k = e then 0 else 1000000) 0 0 (fun k hk => by
    rw [ini_v, if_pos (show k < 12 by omega)]
    show (if k = e then (0 : Int32) else FAR) = nI (if k = e then 0 else 1000000) ∧ ((if k = e then 0 else 1000000) ≤ 0 ∨ (if k = e then 0 else 1000000) = 1000000)
    by_cases c : k = e
    · rw [if_pos c, if_pos c]; exact ⟨rfl, Or.inl (Nat.le_refl _)⟩
    · rw [if_neg c, if_neg c]; exact ⟨rfl, Or.inr rfl⟩) (by omega) (if_pos rfl) (fun k hk hI => by
      by_cases c : k = e
      · exact Or.inl c
      · simp only [if_neg c] at hI; omega) (fun k c h hk w => by
      obtain ⟨rfl, rfl, rfl⟩ := w
      simp only [if_true]; omega) (by omega)
  exact ⟨f, fun k hk => ⟨(h1 k hk).1, by have := (h1 k hk).2; omega⟩, h2, h3, h4⟩
end ClassSearch
