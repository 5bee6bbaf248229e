/-! ===== sends ===== -/
/-- one bit of a row of links, as a number -/
def lbn (L : Int32) (j : Nat) : Nat := if lnkB L j = true then 1 else 0
theorem lbn_le (L : Int32) (j : Nat) : lbn L j ≤ 1 := by unfold lbn; split <;> omega
theorem lbn_1 {L : Int32} {j : Nat} : lbn L j = 1 ↔ lnkB L j = true := by
  unfold lbn
  split
  · rename_i h; exact ⟨fun _ => h, fun _ => rfl⟩
  · rename_i h; exact ⟨fun z => by omega, fun z => absurd z h⟩
theorem lnkN (L : Int32) (j : Nat) : (L >>> (nI j &&& 31)) &&& nI 1 = nI (lbn L j) := lnk01 L j
theorem LR.row {τ τ' : T3} {p l tt : Nat → Int32} (h : LR τ p l tt) (e : τ' 3 = τ 3) : LR τ' p l tt := by
  unfold LR at *
  rw [e]; exact h
section Qs4
variable {l : Launch} {G : GT} {ac ap al at' : Nat} {ad : Nat → Nat → Nat} {m t mo : Nat} {τ : T3} {p l' tt : Nat → Int32} {N M : Mm}
theorem fP0 {i j : Nat} (hi : i < 7) (hj : j < 7) (hij : i ≠ j) : fPair 7 (nI i) (nI j) = 0 := by
  unfold fPair
  rw [if_neg (fun q => q.elim (fun a => a (inN7 hi (by decide))) (fun a => a (inN7 hj (by decide)))), if_neg (fun q => hij (i31 (by omega) (by omega) q))]
theorem q_cost (hl : l.stackTraces = false) (hW : LW G ac ap al at' ad m t mo τ p l' tt N M) {i j : Nat} (hi : i < 7) (hj : j < 7) (hij : i ≠ j) : Con l G yX5_cost (.code yX5_cost cX5_cost 3 (some FieldType.int)) 9 166 [.ref (ad 0 0), .int (nI i), .int (nI j)] M (fun v M' => ∃ (T : T3) (co : Int32), v = some (.int co) ∧ LW G ac ap al at' ad m t mo T p l' tt N M' ∧ ((noW T 7 i j ∧ co = -1) ∨ ∃ h, wayP T 7 i j h ∧ co = wcost T 7 i j h)) noX 3 18 :=
  (c_X5_cost hl hW.rep (by decide) hW.inv.m60 (nI i) (nI j)).imp (fun v M' h => by
    obtain ⟨-, i', j', h1, h2, h3, h4, h5, T, hR, ho, hc⟩ := h
    cases i31 (by omega) (by omega) h4
    cases i31 (by omega) (by omega) h5
    have e3 : T 3 = τ 3 := ho 3 (by decide) (by decide) (by decide) (by decide)
    have hL := hW.to hR (hW.inv.oth ho) (hW.lr.row e3)
    rcases hc with ⟨g1, g2⟩ | ⟨h, g1, g2⟩
    · exact ⟨T, _, g2, hL, Or.inl ⟨(noW_c e3 (by decide) hi hj).mpr g1, rfl⟩⟩
    · exact ⟨T, _, g2, hL, Or.inr ⟨h, (wayP_c e3 (by decide) hi hj).mpr g1, (wcost_c e3 (by decide) hi hj).symm⟩⟩) (fun E M' h => h.1 (fP0 hi hj hij))
/-- a refused send -/
def SRF (τ : T3) (m i j : Nat) : Prop := 60 ≤ m ∨ noW τ 7 i j ∨ ∃ h, wayP τ 7 i j h ∧ τ 3 i 0 < wcost τ 7 i j h
/-- a send that went -/
def SOK (G : GT) (ad : Nat → Nat → Nat) (m i j : Nat) (τ : T3) (N M' : Mm) : Prop := ∃ (h : Nat) (ad' : Nat → Nat → Nat) (τ2 : T3), wayP τ 7 i j h ∧ m < 60 ∧ ¬ τ 3 i 0 < wcost τ 7 i j h ∧ ad' 0 0 = ad 0 0 ∧ oth τ2 τ ∧ FDs (τ 3) (wBF τ 7 j) j 7 i h τ2 ∧ Rep G ad' 7 (m + 1) (tauM (tset τ2 3 i (upd (τ2 3 i) 0 (τ2 3 i 0 - wcost τ 7 i j h))) m (fun _ => 0) (pr2 (nI h) (wcost τ 7 i j h)) (cpj (τ2 13 0) (fun _ => 0) (h + 1)) (cpj (τ2 14 0) (fun _ => 0) (h + 1))) N M'
theorem q_askSend (hl : l.stackTraces = false) (hW : LW G ac ap al at' ad m t mo τ p l' tt N M) {i j : Nat} (hi : i < 7) (hj : j < 7) (hij : i ≠ j) : Con l G yL_asks (.codeWith yL_asks method_3_code 5 (some FieldType.int) [(0, 88, 89, 35), (0, 88, 94, 38), (0, 88, 99, 41)]) 12 210 [.ref (ad 0 0), .int (nI 0), .int (nI i), .int (nI j)] M (fun v M' => (v = some (.int (-70008)) ∧ SRF τ m i j ∧ ∃ T : T3, T 3 = τ 3 ∧ LW G ac ap al at' ad m t mo T p l' tt N M') ∨ (v = some (.int (nI m)) ∧ SOK G ad m i j τ N M')) noX 12 1100 := by
  have hI := hW.inv
  have hR := hW.rep
  have hf := fP0 hi hj hij
  refine (k_send hl hR.o0 (c_X5_send hl hR (by decide) hI.m60 (nI i) (nI j)) (by decide) (by decide) (by decide) (by decide) (fun v M' h => by
    obtain ⟨-, i', j', h, h1, h2, h3, h4, h5, h6, h7, h8, h9, -⟩ := h
    exact ⟨_, h9⟩) (fun E M' h => by
    obtain ⟨T, -, -, ⟨h, -⟩ | ⟨-, h, -⟩⟩ := h
    · exact absurd hf h
    · exact Or.inr (Or.inr h))).imp (fun v M' h => ?_) (fun E M' h => h)
  rcases h with h | ⟨h, h2⟩ | ⟨h, h2⟩ | ⟨h, h2⟩
  · obtain ⟨-, i', j', h, h1, h2, h3, h4, h5, h6, h7, h8, h9, ad', ha, τ2, ho, hF, hR'⟩ := h
    cases i31 (by omega) (by omega) h4
    cases i31 (by omega) (by omega) h5
    exact Or.inr ⟨h9, h, ad', τ2, h6, h7, h8, ha, ho, hF, hR'⟩
  · obtain ⟨T, -, -, ⟨h, -⟩ | ⟨-, h, -⟩⟩ := h
    · exact absurd hf h
    · exact absurd h (by decide)
  · obtain ⟨T, -, -, ⟨h, -⟩ | ⟨-, h, -⟩⟩ := h
    · exact absurd hf h
    · exact absurd h (by decide)
  · obtain ⟨T, hRT, ho, ⟨h, -⟩ | ⟨-, -, i', j', h1, h3, h4, h5, h6, h7⟩⟩ := h
    · exact absurd hf h
    · cases i31 (by omega) (by omega) h5
      cases i31 (by omega) (by omega) h6
      have e3 : T 3 = τ 3 := ho 3 (by decide) (by decide) (by decide) (by decide)
      exact Or.inl ⟨h2, h7, T, e3, hW.to hRT (hI.oth ho) (hW.lr.row e3)⟩
end Qs4
theorem wsum_le {τ : T3} {e : Nat} {f : Nat → Nat} (h : ∀ q, gs τ e (f q) ≤ 60) : ∀ k, wsum (gs τ e) f k ≤ 60 * k
  | 0 => Nat.le_refl _
  | k + 1 => by
    show wsum (gs τ e) f k + gs τ e (f (k + 1)) ≤ 60 * (k + 1)
    have := wsum_le h k
    have := h (k + 1)
    omega
/-- the best over one node alone, as found so far -/
def BSn (τ : T3) (i j bs : Nat) : Prop := bs ≤ 9999 ∧ (bs = 9999 ∨ ∃ k, k < 7 ∧ k ≠ i ∧ k ≠ j ∧ ovr τ i j k ∧ bs = ix (wgt (τ 3 k)))
set_option maxRecDepth 100000 in
set_option maxHeartbeats 4000000 in
theorem c_L_sends {l : Launch} {G : GT} (hl : l.stackTraces = false) {ac ap al at' : Nat} {ad : Nat → Nat → Nat} {m t mo : Nat} {τ : T3} {p l' tt : Nat → Int32} {N M : Mm} (hW : LW G ac ap al at' ad m t mo τ p l' tt N M) (ht : t ≤ 5000) {x : Nat} (hx : x < 1073741824) : Con l G yL_sends (.code yL_sends method_6_code 15 (some FieldType.boolean)) 13 260 [.ref (ad 0 0), .int (nI x), .ref ac, .ref ap, .ref al] M (fun v M' => v = some (.int 1) ∧ LSE G (ad 0 0) ac ap al at' t mo M') (noX) 200 2400 := by
  refine con_of hl (by decide +kernel) (acc rfl (acc rfl (acc rfl (acc rfl (acc rfl ac0))))) (lb rfl) ?_
  intro X hlX hGX C Rt hnx hnm
  subst hlX hGX
  have hmo := hW.inv.mo2
  obtain ⟨i, hi7⟩ : ∃ i, i = x % 7 := ⟨_, rfl⟩
  have hi : i < 7 := by omega
  obtain ⟨j, hj7⟩ : ∃ j, j = (i + 1 + x / 12 % (7 - 1)) % 7 := ⟨_, rfl⟩
  have hj : j < 7 := by omega
  have hij : i ≠ j := by omega
  show V X 0 0 M 0 [some (.ref (ad 0 0)), some (.int (nI x)), some (.ref ac), some (.ref ap), some (.ref al), none, none, none, none, none, none, none, none, none, none] []
  have K36 : ∀ (τ : T3) (M : Mm) (co : Int32), LW (cG X) ac ap al at' ad m t mo τ p l' tt N M → ((noW τ 7 i j ∧ co = -1) ∨ ∃ h, wayP τ 7 i j h ∧ co = wcost τ 7 i j h) → V X (3) (18) M 36 [some (.ref (ad 0 0)), some (.int (nI (x))), some (.ref ac), some (.ref ap), some (.ref al), some (.int (nI (i))), some (.int (nI (j))), none, none, none, none, none, none, none, none] [.int co] := by
    clear hW
    intro τ M co hW hcd
    have hm60 := hW.inv.m60
    have hR := hW.rep
    have hI := hW.inv
    obtain ⟨d0, d1, hs0⟩ := hI.le hi
    have hli9 : l' i = τ 3 i 9 := (hW.lr i hi).2.1
    have hlj9 : l' j = τ 3 j 9 := (hW.lr j hj).2.1
    have hlle := lbn_le (τ 3 i 9) j
    have K189 : ∀ bs : Nat, BSn τ i j bs → V X (47) (282) M 189 [some (.ref (ad 0 0)), some (.int (nI (x))), some (.ref ac), some (.ref ap), some (.ref al), some (.int (nI (i))), some (.int (nI (j))), some (.int (co)), some (.int (nI (ix (τ 3 i 0)))), some (.int (nI (bs))), none, none, none, none, none] [] := by
      intro bs hbs
      have hbs1 := hbs.1
      rcases hI.find hi hj hij with ⟨nw1, nw2, nw3, nw4⟩ | ⟨hh, g, w1, w2, w3, w4, w5, w6, w7, w8, w9, w10, w11, w12, w13, w14, w15, w16⟩
      · have hco : co = -1 := by
          rcases hcd with ⟨_, z⟩ | ⟨h, z, _⟩
          · exact z
          · exact absurd z (nw2 h)
        subst hco
        have hl0 : ¬ lbn (τ 3 i 9) j = 1 := fun z => nw3 (lbn_1.mp z)
        have hb9 : bs = 9999 := by
          rcases hbs.2 with z | ⟨k, k1, k2, k3, k4, _⟩
          · exact z
          · exact absurd k4 (nw4 k k1 k2 k3)
        refine o_aload_n C dL_sends_189 rfl ?_
        refine o_iconst (v := nI 0) C dL_sends_190 (by decide) ?_
        refine o_iload C dL_sends_191 rfl ?_
        refine o_iload C dL_sends_193 rfl ?_
        refine o_callSX C mx_L_asks wd_512 wd_511 (q_askSend hl hW (i := i) (j := j) hi hj hij) ⟨lb rfl, lb rfl, by show _ ≤ (200 : Nat); omega, by show _ ≤ (2400 : Nat); omega⟩ rfl (lb rfl) dL_sends_195 (fun _ _ h => h.elim) (fun v M2 hv => ?_)
        rcases hv with ⟨rfl, -, T, e3, hW2⟩ | ⟨-, h, ad2, t2, hw, -⟩
        rotate_left
        · exact absurd hw (nw2 h)
        refine o_istore (L' := [_, _, _, _, _, _, _, _, _, _, _, _, _, _, _]) C dL_sends_198 (by decide) rfl ?_
        refine o_aload C dL_sends_200 rfl ?_
        refine o_iload C dL_sends_202 rfl ?_
        refine o_iald C hW2.ml (vp_in_nI (by omega) (by decide)) dL_sends_204 ?_
        rw [nI_clamp (by omega)]
        refine o_iload C dL_sends_205 rfl ?_
        refine o_ishr C dL_sends_207 ?_
        refine o_iconst (v := nI 1) C dL_sends_208 (by decide) ?_
        refine o_iand C dL_sends_209 ?_
        rw [hli9, lnkN]
        refine o_iconst (v := nI 1) C dL_sends_210 (by decide) ?_
        refine o_icmp_ne (tgt := 221) C dL_sends_211 (by decide) (fun c211 => ?_) (fun c211 => False.elim (by rw [nI_eq (by omega) (by omega)] at c211; omega))
        refine o_iload C dL_sends_221 rfl ?_
        refine o_if_lt (tgt := 241) C dL_sends_223 (by decide) (fun c223 => ?_) (fun c223 => False.elim (absurd (by decide) c223))
        refine o_iload C dL_sends_241 rfl ?_
        refine o_ldc C dL_sends_243 wd_645 ?_
        refine o_icmp_ne (tgt := 265) C dL_sends_245 (by decide) (fun c245 => False.elim (c245 rfl)) (fun c245 => ?_)
        refine o_iload C dL_sends_248 rfl ?_
        refine o_if_ge (tgt := 261) C dL_sends_250 (by decide) (fun c250 => False.elim (absurd c250 (by decide))) (fun c250 => ?_)
        refine o_iload C dL_sends_253 rfl ?_
        refine o_sipush (v := nI 9999) C dL_sends_255 (by decide) ?_
        refine o_icmp_ne (tgt := 265) C dL_sends_258 (by decide) (fun c258 => False.elim (by rw [nI_eq (by omega) (by omega)] at c258; omega)) (fun c258 => ?_)
        refine o_iconst (v := nI 1) C dL_sends_261 (by decide) ?_
        refine o_goto (tgt := 266) C dL_sends_262 (by decide) ?_
        refine o_zret C Rt dL_sends_266 (by show _ ≤ (200 : Nat); omega) (by show _ ≤ (2400 : Nat); omega) (by decide) ?_
        exact ⟨rfl, hW2.e rfl⟩
      · have hco : co = nI (psum g (hh - 1)) := by
          rcases hcd with ⟨z, _⟩ | ⟨h, z, z2⟩
          · exact absurd z w2
          · rw [z2, w3 h z, w13]
        subst hco
        have hl1 : lbn (τ 3 i 9) j = 1 → psum g (hh - 1) = 0 := fun z => by rw [w15 (lbn_1.mp z)]; rfl
        have KS : ∀ (T : T3) (ad2 : Nat → Nat → Nat) (M2 : Mm), INV 7 (m + 1) t T mo → (∀ y k, k ≠ 0 ∨ y ≠ i → T 3 y k = τ 3 y k) → T 3 i 0 = nI (ix (τ 3 i 0) - psum g (hh - 1)) → (∀ q, T 6 m q = 0) → T 7 m 0 = nI hh → T 7 m 1 = nI (psum g (hh - 1)) → (∀ q, q ≤ hh → T 8 m q = nI (pth (τ 3) (wBF τ 7 j) j 7 i q)) → Rep (cG X) ad2 7 (m + 1) T N M2 → m < 60 → ad2 0 0 = ad 0 0 → psum g (hh - 1) ≤ ix (τ 3 i 0) → V X (59) (1382) M2 198 [some (.ref (ad 0 0)), some (.int (nI (x))), some (.ref ac), some (.ref ap), some (.ref al), some (.int (nI (i))), some (.int (nI (j))), some (.int (nI (psum g (hh - 1)))), some (.int (nI (ix (τ 3 i 0)))), some (.int (nI (bs))), none, none, none, none, none] [.int (nI m)] := by
          intro T ad2 M2 hI4 s1 s2 s3 s4 s5 s6 hR2 hm6 ha2 hpu
          have hm60 := hI4.m60
          have hNc : (mst N ac (aI (cG X) 4 (cF (m + 1) t mo))) ac = some (aI (cG X) 4 (cF (m + 1) t mo)) := mst_s
          have hNl : (mst N ac (aI (cG X) 4 (cF (m + 1) t mo))) al = some (aI (cG X) 12 l') := (mst_n (Ne.symm hW.2.2.2.2.2.2.1.2.1)).trans hW.2.2.2.2.1
          have hNp : (mst N ac (aI (cG X) 4 (cF (m + 1) t mo))) ap = some (aI (cG X) 24 p) := (mst_n (Ne.symm hW.2.2.2.2.2.2.1.1)).trans hW.2.2.2.1
          have wv : ∀ q, q ≤ hh → onA (T 8 m) (T 7 m 0) (nI q) (-1) = nI (pth (τ 3) (wBF τ 7 j) j 7 i q) := fun q hq => by rw [s4, on_in hq w5]; exact s6 q hq
          have loop2 : ∀ (r : Nat) (q : Nat), q + 1 + r = hh → ∀ M4 : Mm, Rep (cG X) ad2 7 (m + 1) T (mst N ac (aI (cG X) 4 (cF (m + 1) t mo))) M4 → V X (59 + 12 * q) (1382 + 72 * q) M4 283 [some (.ref (ad2 0 0)), some (.int (nI (x))), some (.ref ac), some (.ref ap), some (.ref al), some (.int (nI (i))), some (.int (nI (j))), some (.int (nI (psum g (hh - 1)))), some (.int (nI (ix (τ 3 i 0)))), some (.int (nI (bs))), some (.int (nI (m))), some (.int (nI (psum g q))), some (.int (nI (wsum (gs τ j) (pth (τ 3) (wBF τ 7 j) j 7 i) q))), some (.int (nI (q + 1))), none] [] := by
            intro r
            induction r with
            | zero =>
            intro q hqr M4 hR4
            have hq1 : q + 1 = hh := by omega
            have hpe : pth (τ 3) (wBF τ 7 j) j 7 i (q + 1) = j := by rw [hq1]; exact w10
            have hp1 : psum g q = psum g (hh - 1) := by rw [show q = hh - 1 by omega]
            have hws : wsum (gs τ j) (pth (τ 3) (wBF τ 7 j) j 7 i) q ≤ bs := by
              have hb := wsum_le (e := j) (f := pth (τ 3) (wBF τ 7 j) j 7 i) (fun q => (hI.gc hj).2.2.2.1 _ (w9 q)) q
              rcases hbs.2 with z | ⟨k, k1, k2, k3, k4, k5⟩
              · omega
              · have := w16 k k1 k2 k3 k4
                rw [← hq1] at this
                have e : wsum (gs τ j) (pth (τ 3) (wBF τ 7 j) j 7 i) (q + 1) = wsum (gs τ j) (pth (τ 3) (wBF τ 7 j) j 7 i) q + gs τ j (pth (τ 3) (wBF τ 7 j) j 7 i (q + 1)) := rfl
                omega
            have hlb : lbn (τ 3 j 9) (pth (τ 3) (wBF τ 7 j) j 7 i q) = 1 := by
              refine lbn_1.mpr ((hI.sym (w9 q) hj).mp ?_)
              have := w6 q (by omega)
              rwa [hpe] at this
            have hp00 : pth (τ 3) (wBF τ 7 j) j 7 i 0 = i := rfl
            have hq7 := w9 q
            refine o_aload_n C dL_sends_283 rfl ?_
            refine o_iload C dL_sends_284 rfl ?_
            refine o_iload C dL_sends_286 rfl ?_
            refine o_callV C mt_X5_way wd_647 wd_648 wd_646 cl_X5 hR4.o0 (q_way hl hR4 hm60 (i := m) (q := q + 1) (by omega) (by omega) (w := nI (pth (τ 3) (wBF τ 7 j) j 7 i (q + 1))) (wv (q + 1) (by omega))) ⟨lb rfl, lb rfl, by show _ ≤ (200 : Nat); omega, by show _ ≤ (2400 : Nat); omega⟩ rfl (lb rfl) dL_sends_288 (fun _ _ h => h.elim) (fun v M2 hv => ?_)
            obtain ⟨rfl, rfl⟩ := hv
            refine o_iload C dL_sends_291 rfl ?_
            refine o_icmp_eq (tgt := 406) C dL_sends_293 (by decide) (fun c293 => ?_) (fun c293 => False.elim (by rw [nI_eq (by omega) (by omega)] at c293; omega))
            refine o_iload C dL_sends_406 rfl ?_
            refine o_aload_n C dL_sends_408 rfl ?_
            refine o_iconst (v := nI 1) C dL_sends_409 (by decide) ?_
            refine o_iald C (hR4.fr hNc) (vp_in_nI (by omega) (by decide)) dL_sends_410 ?_
            rw [nI_clamp (by omega)]
            rw [show cF (m + 1) t mo 1 = nI (m + 1) from rfl]
            refine o_iconst (v := nI 1) C dL_sends_411 (by decide) ?_
            refine o_isub C dL_sends_412 ?_
            rw [pk_sub (by omega)]
            refine o_icmp_ne (tgt := 517) C dL_sends_413 (by decide) (fun c413 => False.elim (by rw [nI_eq (by omega) (by omega)] at c413; omega)) (fun c413 => ?_)
            refine o_iload C dL_sends_416 rfl ?_
            refine o_iload C dL_sends_418 rfl ?_
            refine o_icmp_ne (tgt := 517) C dL_sends_420 (by decide) (fun c420 => False.elim (by rw [nI_eq (by omega) (by omega)] at c420; omega)) (fun c420 => ?_)
            refine o_iload C dL_sends_423 rfl ?_
            refine o_iload C dL_sends_425 rfl ?_
            refine o_icmp_gt (tgt := 517) C dL_sends_427 (by decide) (fun c427 => False.elim (by rw [nI_ltI (by omega) (by omega)] at c427; omega)) (fun c427 => ?_)
            refine o_aload C dL_sends_430 rfl ?_
            refine o_iload C dL_sends_432 rfl ?_
            refine o_iald C (hR4.fr hNl) (vp_in_nI (by omega) (by decide)) dL_sends_434 ?_
            rw [nI_clamp (by omega)]
            refine o_aload_n C dL_sends_435 rfl ?_
            refine o_iload C dL_sends_436 rfl ?_
            refine o_iload C dL_sends_438 rfl ?_
            refine o_iconst (v := nI 1) C dL_sends_440 (by decide) ?_
            refine o_isub C dL_sends_441 ?_
            rw [pk_sub (by omega), show q + 1 - 1 = q by omega]
            refine o_callV C mt_X5_way wd_647 wd_648 wd_646 cl_X5 hR4.o0 (q_way hl hR4 hm60 (i := m) (q := q) (by omega) (by omega) (w := nI (pth (τ 3) (wBF τ 7 j) j 7 i q)) (wv q (by omega))) ⟨lb rfl, lb rfl, by show _ ≤ (200 : Nat); omega, by show _ ≤ (2400 : Nat); omega⟩ rfl (lb rfl) dL_sends_442 (fun _ _ h => h.elim) (fun v M2 hv => ?_)
            obtain ⟨rfl, rfl⟩ := hv
            refine o_ishr C dL_sends_445 ?_
            refine o_iconst (v := nI 1) C dL_sends_446 (by decide) ?_
            refine o_iand C dL_sends_447 ?_
            rw [hlj9, lnkN]
            refine o_iconst (v := nI 1) C dL_sends_448 (by decide) ?_
            refine o_icmp_ne (tgt := 517) C dL_sends_449 (by decide) (fun c449 => False.elim (by rw [nI_eq (by omega) (by omega)] at c449; omega)) (fun c449 => ?_)
            refine o_aload_n C dL_sends_452 rfl ?_
            refine o_iload C dL_sends_453 rfl ?_
            refine o_iconst (v := nI 0) C dL_sends_455 (by decide) ?_
            refine o_callV C mt_X5_way wd_647 wd_648 wd_646 cl_X5 hR4.o0 (q_way hl hR4 hm60 (i := m) (q := 0) (by omega) (by omega) (w := nI (pth (τ 3) (wBF τ 7 j) j 7 i 0)) (wv 0 (by omega))) ⟨lb rfl, lb rfl, by show _ ≤ (200 : Nat); omega, by show _ ≤ (2400 : Nat); omega⟩ rfl (lb rfl) dL_sends_456 (fun _ _ h => h.elim) (fun v M2 hv => ?_)
            obtain ⟨rfl, rfl⟩ := hv
            refine o_iload C dL_sends_459 rfl ?_
            refine o_icmp_ne (tgt := 517) C dL_sends_461 (by decide) (fun c461 => False.elim (by rw [nI_eq (by omega) (by omega)] at c461; omega)) (fun c461 => ?_)
            refine o_aload_n C dL_sends_464 rfl ?_
            refine o_iload C dL_sends_465 rfl ?_
            refine o_iconst (v := nI 0) C dL_sends_467 (by decide) ?_
            refine o_callV C mt_X5_message wd_634 wd_635 wd_633 cl_X5 hR4.o0 (q_msg0 hl hR4 hm60 (i := m) (by omega) (w := nI (0)) (s3 0)) ⟨lb rfl, lb rfl, by show _ ≤ (200 : Nat); omega, by show _ ≤ (2400 : Nat); omega⟩ rfl (lb rfl) dL_sends_468 (fun _ _ h => h.elim) (fun v M2 hv => ?_)
            obtain ⟨rfl, rfl⟩ := hv
            refine o_if_ne (tgt := 517) C dL_sends_471 (by decide) (fun c471 => False.elim (by rw [nz_eq (by omega)] at c471; omega)) (fun c471 => ?_)
            refine o_aload_n C dL_sends_474 rfl ?_
            refine o_iload C dL_sends_475 rfl ?_
            refine o_iconst (v := nI 1) C dL_sends_477 (by decide) ?_
            refine o_callV C mt_X5_message wd_634 wd_635 wd_633 cl_X5 hR4.o0 (q_msg1 hl hR4 hm60 (i := m) (by omega) (w := nI (pth (τ 3) (wBF τ 7 j) j 7 i 0)) (by rw [s3, show (0 : Int32) = nI 0 from rfl]; exact wv 0 (by omega))) ⟨lb rfl, lb rfl, by show _ ≤ (200 : Nat); omega, by show _ ≤ (2400 : Nat); omega⟩ rfl (lb rfl) dL_sends_478 (fun _ _ h => h.elim) (fun v M2 hv => ?_)
            obtain ⟨rfl, rfl⟩ := hv
            refine o_iload C dL_sends_481 rfl ?_
            refine o_icmp_ne (tgt := 517) C dL_sends_483 (by decide) (fun c483 => False.elim (by rw [nI_eq (by omega) (by omega)] at c483; omega)) (fun c483 => ?_)
            refine o_aload_n C dL_sends_486 rfl ?_
            refine o_iload C dL_sends_487 rfl ?_
            refine o_iconst (v := nI 2) C dL_sends_489 (by decide) ?_
            refine o_callV C mt_X5_message wd_634 wd_635 wd_633 cl_X5 hR4.o0 (q_msg2 hl hR4 hm60 (i := m) (by omega) (w := nI (psum g (hh - 1))) s5) ⟨lb rfl, lb rfl, by show _ ≤ (200 : Nat); omega, by show _ ≤ (2400 : Nat); omega⟩ rfl (lb rfl) dL_sends_490 (fun _ _ h => h.elim) (fun v M2 hv => ?_)
            obtain ⟨rfl, rfl⟩ := hv
            refine o_iload C dL_sends_493 rfl ?_
            refine o_icmp_ne (tgt := 517) C dL_sends_495 (by decide) (fun c495 => False.elim (by rw [nI_eq (by omega) (by omega)] at c495; omega)) (fun c495 => ?_)
            refine o_aload_n C dL_sends_498 rfl ?_
            refine o_iload C dL_sends_499 rfl ?_
            refine o_iconst (v := nI 0) C dL_sends_501 (by decide) ?_
            refine o_callV C mt_X5_nodeIs wd_508 wd_509 wd_507 cl_X5 hR4.o0 (q_nis0 hl hR4 hm60 (i := i) (by omega) (w := nI (ix (τ 3 i 0) - psum g (hh - 1))) s2) ⟨lb rfl, lb rfl, by show _ ≤ (200 : Nat); omega, by show _ ≤ (2400 : Nat); omega⟩ rfl (lb rfl) dL_sends_502 (fun _ _ h => h.elim) (fun v M2 hv => ?_)
            obtain ⟨rfl, rfl⟩ := hv
            refine o_iload C dL_sends_505 rfl ?_
            refine o_iload C dL_sends_507 rfl ?_
            refine o_isub C dL_sends_509 ?_
            rw [pk_sub (by omega)]
            refine o_icmp_ne (tgt := 517) C dL_sends_510 (by decide) (fun c510 => False.elim (by rw [nI_eq (by omega) (by omega)] at c510; omega)) (fun c510 => ?_)
            refine o_iconst (v := nI 1) C dL_sends_513 (by decide) ?_
            refine o_goto (tgt := 518) C dL_sends_514 (by decide) ?_
            refine o_zret C Rt dL_sends_518 (by show _ ≤ (200 : Nat); omega) (by show _ ≤ (2400 : Nat); omega) (by decide) ?_
            refine ⟨rfl, (hW.newC hR4 hI4 (fun k hk => ?_)).e ha2⟩
            rw [s1 k 2 (Or.inl (by decide)), s1 k 9 (Or.inl (by decide)), s1 k 4 (Or.inl (by decide)), s1 k 5 (Or.inl (by decide))]
            exact hW.lr k hk
            | succ r ih =>
            intro q hqr M4 hR4
            have hq7 := w9 (q + 1)
            have hq0 := w9 q
            have hpj : ¬ pth (τ 3) (wBF τ 7 j) j 7 i (q + 1) = j := w1.2.2.1 (q + 1) (by omega)
            have hrl := rlyB_iff.mp (w7 (q + 1) (by omega) (by omega))
            obtain ⟨b0, b1, b2, b3, p0, tr, b4, b5, b6, b7, bh⟩ := (hI.nd (w9 (q + 1))).nat
            have hgq := w12 (q + 1) (by omega) (by omega)
            have hgb := (w11 (q + 1) (by omega)).1
            have u4 : T 3 (pth (τ 3) (wBF τ 7 j) j 7 i (q + 1)) 4 = nI 0 := by rw [s1 _ 4 (Or.inl (by decide))]; exact hrl.1
            have u1 : T 3 (pth (τ 3) (wBF τ 7 j) j 7 i (q + 1)) 1 = nI (ix (τ 3 (pth (τ 3) (wBF τ 7 j) j 7 i (q + 1)) 1)) := by rw [s1 _ 1 (Or.inl (by decide))]; exact b2
            have u3 : T 3 (pth (τ 3) (wBF τ 7 j) j 7 i (q + 1)) 3 = nI tr := by rw [s1 _ 3 (Or.inl (by decide))]; exact b7
            have hst : ¬ ix (τ 3 (pth (τ 3) (wBF τ 7 j) j 7 i (q + 1)) 1) < 2 * g (q + 1) := fun z => hrl.2 (by rw [b2, hgq, n2, pk_mul]; exact nI_lt z (by omega))
            have hp9 : p (2 * (pth (τ 3) (wBF τ 7 j) j 7 i (q + 1))) = nI (g (q + 1)) := (hW.lr _ hq7).1.trans hgq
            have hl9 : l' (pth (τ 3) (wBF τ 7 j) j 7 i (q + 1)) = τ 3 (pth (τ 3) (wBF τ 7 j) j 7 i (q + 1)) 9 := (hW.lr _ hq7).2.1
            have hlb : lbn (τ 3 (pth (τ 3) (wBF τ 7 j) j 7 i (q + 1)) 9) (pth (τ 3) (wBF τ 7 j) j 7 i q) = 1 := lbn_1.mpr ((hI.sym hq0 hq7).mp (w6 q (by omega)))
            have hgs : gs τ j (pth (τ 3) (wBF τ 7 j) j 7 i (q + 1)) = g (q + 1) + (100 - tr) / 10 := by
              unfold gs wgt
              rw [if_neg hpj, hgq, b7, show (100 : Int32) = nI 100 from rfl, show (10 : Int32) = nI 10 from rfl, pk_sub b5, pk_div (by omega) (by decide) (by decide), nI_add, ix_nI (by omega)]
            refine o_aload_n C dL_sends_283 rfl ?_
            refine o_iload C dL_sends_284 rfl ?_
            refine o_iload C dL_sends_286 rfl ?_
            refine o_callV C mt_X5_way wd_647 wd_648 wd_646 cl_X5 hR4.o0 (q_way hl hR4 hm60 (i := m) (q := q + 1) (by omega) (by omega) (w := nI (pth (τ 3) (wBF τ 7 j) j 7 i (q + 1))) (wv (q + 1) (by omega))) ⟨lb rfl, lb rfl, by show _ ≤ (200 : Nat); omega, by show _ ≤ (2400 : Nat); omega⟩ rfl (lb rfl) dL_sends_288 (fun _ _ h => h.elim) (fun v M2 hv => ?_)
            obtain ⟨rfl, rfl⟩ := hv
            refine o_iload C dL_sends_291 rfl ?_
            refine o_icmp_eq (tgt := 406) C dL_sends_293 (by decide) (fun c293 => False.elim (by rw [nI_eq (by omega) (by omega)] at c293; omega)) (fun c293 => ?_)
            refine o_iload C dL_sends_296 rfl ?_
            refine o_bipush (v := nI 13) C dL_sends_298 (by decide) ?_
            refine o_icmp_ge (tgt := 406) C dL_sends_300 (by decide) (fun c300 => False.elim (by rw [nI_leI (by omega) (by omega)] at c300; omega)) (fun c300 => ?_)
            refine o_aload_n C dL_sends_303 rfl ?_
            refine o_iload C dL_sends_304 rfl ?_
            refine o_iload C dL_sends_306 rfl ?_
            refine o_callV C mt_X5_way wd_647 wd_648 wd_646 cl_X5 hR4.o0 (q_way hl hR4 hm60 (i := m) (q := q + 1) (by omega) (by omega) (w := nI (pth (τ 3) (wBF τ 7 j) j 7 i (q + 1))) (wv (q + 1) (by omega))) ⟨lb rfl, lb rfl, by show _ ≤ (200 : Nat); omega, by show _ ≤ (2400 : Nat); omega⟩ rfl (lb rfl) dL_sends_308 (fun _ _ h => h.elim) (fun v M2 hv => ?_)
            obtain ⟨rfl, rfl⟩ := hv
            refine o_istore (L' := [_, _, _, _, _, _, _, _, _, _, _, _, _, _, _]) C dL_sends_311 (by decide) rfl ?_
            refine o_aload_n C dL_sends_313 rfl ?_
            refine o_iload C dL_sends_314 rfl ?_
            refine o_iconst (v := nI 3) C dL_sends_316 (by decide) ?_
            refine o_callV C mt_X5_nodeIs wd_508 wd_509 wd_507 cl_X5 hR4.o0 (q_nis3 hl hR4 hm60 (i := pth (τ 3) (wBF τ 7 j) j 7 i (q + 1)) (by omega) (w := nI (0)) u4) ⟨lb rfl, lb rfl, by show _ ≤ (200 : Nat); omega, by show _ ≤ (2400 : Nat); omega⟩ rfl (lb rfl) dL_sends_317 (fun _ _ h => h.elim) (fun v M2 hv => ?_)
            obtain ⟨rfl, rfl⟩ := hv
            refine o_if_ne (tgt := 362) C dL_sends_320 (by decide) (fun c320 => False.elim (by rw [nz_eq (by omega)] at c320; omega)) (fun c320 => ?_)
            refine o_aload_n C dL_sends_323 rfl ?_
            refine o_iload C dL_sends_324 rfl ?_
            refine o_iconst (v := nI 1) C dL_sends_326 (by decide) ?_
            refine o_callV C mt_X5_nodeIs wd_508 wd_509 wd_507 cl_X5 hR4.o0 (q_nis1 hl hR4 hm60 (i := pth (τ 3) (wBF τ 7 j) j 7 i (q + 1)) (by omega) (w := nI (ix (τ 3 (pth (τ 3) (wBF τ 7 j) j 7 i (q + 1)) 1))) u1) ⟨lb rfl, lb rfl, by show _ ≤ (200 : Nat); omega, by show _ ≤ (2400 : Nat); omega⟩ rfl (lb rfl) dL_sends_327 (fun _ _ h => h.elim) (fun v M2 hv => ?_)
            obtain ⟨rfl, rfl⟩ := hv
            refine o_iconst (v := nI 2) C dL_sends_330 (by decide) ?_
            refine o_aload_n C dL_sends_331 rfl ?_
            refine o_iconst (v := nI 2) C dL_sends_332 (by decide) ?_
            refine o_iload C dL_sends_333 rfl ?_
            refine o_imul C dL_sends_335 ?_
            rw [pk_mul]
            refine o_iald C (hR4.fr hNp) (vp_in_nI (by omega) (by decide)) dL_sends_336 ?_
            rw [nI_clamp (by omega)]
            rw [hp9]
            refine o_imul C dL_sends_337 ?_
            rw [pk_mul]
            refine o_icmp_lt (tgt := 362) C dL_sends_338 (by decide) (fun c338 => False.elim (by rw [nI_ltI (by omega) (by omega)] at c338; omega)) (fun c338 => ?_)
            refine o_aload C dL_sends_341 rfl ?_
            refine o_iload C dL_sends_343 rfl ?_
            refine o_iald C (hR4.fr hNl) (vp_in_nI (by omega) (by decide)) dL_sends_345 ?_
            rw [nI_clamp (by omega)]
            refine o_aload_n C dL_sends_346 rfl ?_
            refine o_iload C dL_sends_347 rfl ?_
            refine o_iload C dL_sends_349 rfl ?_
            refine o_iconst (v := nI 1) C dL_sends_351 (by decide) ?_
            refine o_isub C dL_sends_352 ?_
            rw [pk_sub (by omega), show q + 1 - 1 = q by omega]
            refine o_callV C mt_X5_way wd_647 wd_648 wd_646 cl_X5 hR4.o0 (q_way hl hR4 hm60 (i := m) (q := q) (by omega) (by omega) (w := nI (pth (τ 3) (wBF τ 7 j) j 7 i q)) (wv q (by omega))) ⟨lb rfl, lb rfl, by show _ ≤ (200 : Nat); omega, by show _ ≤ (2400 : Nat); omega⟩ rfl (lb rfl) dL_sends_353 (fun _ _ h => h.elim) (fun v M2 hv => ?_)
            obtain ⟨rfl, rfl⟩ := hv
            refine o_ishr C dL_sends_356 ?_
            refine o_iconst (v := nI 1) C dL_sends_357 (by decide) ?_
            refine o_iand C dL_sends_358 ?_
            rw [hl9, lnkN]
            refine o_if_ne (tgt := 364) C dL_sends_359 (by decide) (fun c359 => ?_) (fun c359 => False.elim (by rw [nz_eq (by omega)] at c359; omega))
            refine o_iload C dL_sends_364 rfl ?_
            refine o_aload_n C dL_sends_366 rfl ?_
            refine o_iconst (v := nI 2) C dL_sends_367 (by decide) ?_
            refine o_iload C dL_sends_368 rfl ?_
            refine o_imul C dL_sends_370 ?_
            rw [pk_mul]
            refine o_iald C (hR4.fr hNp) (vp_in_nI (by omega) (by decide)) dL_sends_371 ?_
            rw [nI_clamp (by omega)]
            rw [hp9]
            refine o_iadd C dL_sends_372 ?_
            rw [nI_add]
            refine o_istore (L' := [_, _, _, _, _, _, _, _, _, _, _, _, _, _, _]) C dL_sends_373 (by decide) rfl ?_
            refine o_iload C dL_sends_375 rfl ?_
            refine o_aload_n C dL_sends_377 rfl ?_
            refine o_iconst (v := nI 2) C dL_sends_378 (by decide) ?_
            refine o_iload C dL_sends_379 rfl ?_
            refine o_imul C dL_sends_381 ?_
            rw [pk_mul]
            refine o_iald C (hR4.fr hNp) (vp_in_nI (by omega) (by decide)) dL_sends_382 ?_
            rw [nI_clamp (by omega)]
            rw [hp9]
            refine o_bipush (v := nI 100) C dL_sends_383 (by decide) ?_
            refine o_aload_n C dL_sends_385 rfl ?_
            refine o_iload C dL_sends_386 rfl ?_
            refine o_iconst (v := nI 2) C dL_sends_388 (by decide) ?_
            refine o_callV C mt_X5_nodeIs wd_508 wd_509 wd_507 cl_X5 hR4.o0 (q_nis2 hl hR4 hm60 (i := pth (τ 3) (wBF τ 7 j) j 7 i (q + 1)) (by omega) (w := nI (tr)) u3) ⟨lb rfl, lb rfl, by show _ ≤ (200 : Nat); omega, by show _ ≤ (2400 : Nat); omega⟩ rfl (lb rfl) dL_sends_389 (fun _ _ h => h.elim) (fun v M2 hv => ?_)
            obtain ⟨rfl, rfl⟩ := hv
            refine o_isub C dL_sends_392 ?_
            rw [pk_sub (by omega)]
            refine o_bipush (v := nI 10) C dL_sends_393 (by decide) ?_
            refine o_idiv C dL_sends_395 (nI_ne0 (by omega) (by omega)) ?_
            rw [pk_div (by omega) (by omega) (by omega)]
            refine o_iadd C dL_sends_396 ?_
            rw [nI_add]
            refine o_iadd C dL_sends_397 ?_
            rw [nI_add]
            refine o_istore (L' := [_, _, _, _, _, _, _, _, _, _, _, _, _, _, _]) C dL_sends_398 (by decide) rfl ?_
            refine o_iinc (L' := [_, _, _, _, _, _, _, _, _, _, _, _, _, _, _]) (y := nI (q + 1 + 1)) C dL_sends_400 rfl (by rw [show Int32.ofInt 1 = nI 1 from by decide]; exact nI_add _ _) (by decide) rfl ?_
            refine o_goto (tgt := 283) C dL_sends_403 (by decide) ?_
            refine V.hide 14 (V.widen (k' := 59 + 12 * (q + 1)) (n' := 1382 + 72 * (q + 1)) (by omega) (by omega) ?_)
            rw [show wsum (gs τ j) (pth (τ 3) (wBF τ 7 j) j 7 i) q + (g (q + 1) + (100 - tr) / 10) = wsum (gs τ j) (pth (τ 3) (wBF τ 7 j) j 7 i) (q + 1) from by show _ = wsum (gs τ j) (pth (τ 3) (wBF τ 7 j) j 7 i) q + gs τ j (pth (τ 3) (wBF τ 7 j) j 7 i (q + 1)); rw [hgs]]
            exact ih (q + 1) (by omega) M4 hR4
          rw [← ha2]
          refine o_istore (L' := [_, _, _, _, _, _, _, _, _, _, _, _, _, _, _]) C dL_sends_198 (by decide) rfl ?_
          refine o_aload C dL_sends_200 rfl ?_
          refine o_iload C dL_sends_202 rfl ?_
          refine o_iald C (hR2.fr hW.2.2.2.2.1) (vp_in_nI (by omega) (by decide)) dL_sends_204 ?_
          rw [nI_clamp (by omega)]
          refine o_iload C dL_sends_205 rfl ?_
          refine o_ishr C dL_sends_207 ?_
          refine o_iconst (v := nI 1) C dL_sends_208 (by decide) ?_
          refine o_iand C dL_sends_209 ?_
          rw [hli9, lnkN]
          refine o_iconst (v := nI 1) C dL_sends_210 (by decide) ?_
          refine o_icmp_ne (tgt := 221) C dL_sends_211 (by decide) (fun c211 => ?_) (fun c211 => ?_)
          · rw [nI_eq (by omega) (by omega)] at c211
            refine o_iload C dL_sends_221 rfl ?_
            refine o_if_lt (tgt := 241) C dL_sends_223 (by decide) (fun c223 => False.elim (by rw [nz_lt (by omega)] at c223; omega)) (fun c223 => ?_)
            refine o_iload C dL_sends_226 rfl ?_
            refine o_iload C dL_sends_228 rfl ?_
            refine o_icmp_lt (tgt := 241) C dL_sends_230 (by decide) (fun c230 => False.elim (by rw [nI_ltI (by omega) (by omega)] at c230; omega)) (fun c230 => ?_)
            refine o_aload_n C dL_sends_233 rfl ?_
            refine o_iconst (v := nI 1) C dL_sends_234 (by decide) ?_
            refine o_iald C (hR2.fr hW.2.2.1) (vp_in_nI (by omega) (by decide)) dL_sends_235 ?_
            rw [nI_clamp (by omega)]
            rw [show cF m t mo 1 = nI m from rfl]
            refine o_bipush (v := nI 60) C dL_sends_236 (by decide) ?_
            refine o_icmp_ne (tgt := 267) C dL_sends_238 (by decide) (fun c238 => ?_) (fun c238 => False.elim (by rw [nI_eq (by omega) (by omega)] at c238; omega))
            refine o_aload_n C dL_sends_267 rfl ?_
            refine o_iconst (v := nI 1) C dL_sends_268 (by decide) ?_
            refine o_dup2 C dL_sends_269 rfl rfl ?_
            refine o_iald C (hR2.fr hW.2.2.1) (vp_in_nI (by omega) (by decide)) dL_sends_270 ?_
            rw [nI_clamp (by omega)]
            rw [show cF m t mo 1 = nI m from rfl]
            refine o_iconst (v := nI 1) C dL_sends_271 (by decide) ?_
            refine o_iadd C dL_sends_272 ?_
            rw [nI_add]
            refine o_iast C (hR2.fr hW.2.2.1) (vp_in_nI (by omega) (by decide)) rfl dL_sends_273 ?_
            rw [nI_clamp (by omega)]
            rw [cF_m]
            have hR4 := hR2.nset (e := aI (cG X) 4 (cF (m + 1) t mo)) hW.2.2.1
            refine o_iconst (v := nI 0) C dL_sends_274 (by decide) ?_
            refine o_istore (L' := [_, _, _, _, _, _, _, _, _, _, _, _, _, _, _]) C dL_sends_275 (by decide) rfl ?_
            refine o_iconst (v := nI 0) C dL_sends_277 (by decide) ?_
            refine o_istore (L' := [_, _, _, _, _, _, _, _, _, _, _, _, _, _, _]) C dL_sends_278 (by decide) rfl ?_
            refine o_iconst (v := nI 1) C dL_sends_280 (by decide) ?_
            refine o_istore (L' := [_, _, _, _, _, _, _, _, _, _, _, _, _, _, _]) C dL_sends_281 (by decide) rfl ?_
            exact loop2 (hh - 1) 0 (by omega) _ hR4
          · rw [nI_eq (by omega) (by omega)] at c211
            refine o_iload C dL_sends_214 rfl ?_
            refine o_if_eq (tgt := 221) C dL_sends_216 (by decide) (fun c216 => ?_) (fun c216 => False.elim (by rw [nz_eq (by omega)] at c216; omega))
            refine o_iload C dL_sends_221 rfl ?_
            refine o_if_lt (tgt := 241) C dL_sends_223 (by decide) (fun c223 => False.elim (by rw [nz_lt (by omega)] at c223; omega)) (fun c223 => ?_)
            refine o_iload C dL_sends_226 rfl ?_
            refine o_iload C dL_sends_228 rfl ?_
            refine o_icmp_lt (tgt := 241) C dL_sends_230 (by decide) (fun c230 => False.elim (by rw [nI_ltI (by omega) (by omega)] at c230; omega)) (fun c230 => ?_)
            refine o_aload_n C dL_sends_233 rfl ?_
            refine o_iconst (v := nI 1) C dL_sends_234 (by decide) ?_
            refine o_iald C (hR2.fr hW.2.2.1) (vp_in_nI (by omega) (by decide)) dL_sends_235 ?_
            rw [nI_clamp (by omega)]
            rw [show cF m t mo 1 = nI m from rfl]
            refine o_bipush (v := nI 60) C dL_sends_236 (by decide) ?_
            refine o_icmp_ne (tgt := 267) C dL_sends_238 (by decide) (fun c238 => ?_) (fun c238 => False.elim (by rw [nI_eq (by omega) (by omega)] at c238; omega))
            refine o_aload_n C dL_sends_267 rfl ?_
            refine o_iconst (v := nI 1) C dL_sends_268 (by decide) ?_
            refine o_dup2 C dL_sends_269 rfl rfl ?_
            refine o_iald C (hR2.fr hW.2.2.1) (vp_in_nI (by omega) (by decide)) dL_sends_270 ?_
            rw [nI_clamp (by omega)]
            rw [show cF m t mo 1 = nI m from rfl]
            refine o_iconst (v := nI 1) C dL_sends_271 (by decide) ?_
            refine o_iadd C dL_sends_272 ?_
            rw [nI_add]
            refine o_iast C (hR2.fr hW.2.2.1) (vp_in_nI (by omega) (by decide)) rfl dL_sends_273 ?_
            rw [nI_clamp (by omega)]
            rw [cF_m]
            have hR4 := hR2.nset (e := aI (cG X) 4 (cF (m + 1) t mo)) hW.2.2.1
            refine o_iconst (v := nI 0) C dL_sends_274 (by decide) ?_
            refine o_istore (L' := [_, _, _, _, _, _, _, _, _, _, _, _, _, _, _]) C dL_sends_275 (by decide) rfl ?_
            refine o_iconst (v := nI 0) C dL_sends_277 (by decide) ?_
            refine o_istore (L' := [_, _, _, _, _, _, _, _, _, _, _, _, _, _, _]) C dL_sends_278 (by decide) rfl ?_
            refine o_iconst (v := nI 1) C dL_sends_280 (by decide) ?_
            refine o_istore (L' := [_, _, _, _, _, _, _, _, _, _, _, _, _, _, _]) C dL_sends_281 (by decide) rfl ?_
            exact loop2 (hh - 1) 0 (by omega) _ hR4
        refine o_aload_n C dL_sends_189 rfl ?_
        refine o_iconst (v := nI 0) C dL_sends_190 (by decide) ?_
        refine o_iload C dL_sends_191 rfl ?_
        refine o_iload C dL_sends_193 rfl ?_
        refine o_callSX C mx_L_asks wd_512 wd_511 (q_askSend hl hW (i := i) (j := j) hi hj hij) ⟨lb rfl, lb rfl, by show _ ≤ (200 : Nat); omega, by show _ ≤ (2400 : Nat); omega⟩ rfl (lb rfl) dL_sends_195 (fun _ _ h => h.elim) (fun v M2 hv => ?_)
        rcases hv with ⟨rfl, hsr, T, e3, hW2⟩ | ⟨rfl, h2, ad2, t2, hw, hm60l, hpu, ha2, ho2, hF, hR2⟩
        · have hsr2 : 60 ≤ m ∨ ix (τ 3 i 0) < psum g (hh - 1) := by
            rcases hsr with z | z | ⟨h, z1, z2⟩
            · exact Or.inl z
            · exact absurd z w2
            · rw [w3 h z1, w13, d0, nI_ltI (by omega) (by omega)] at z2
              exact Or.inr z2
          refine o_istore (L' := [_, _, _, _, _, _, _, _, _, _, _, _, _, _, _]) C dL_sends_198 (by decide) rfl ?_
          refine o_aload C dL_sends_200 rfl ?_
          refine o_iload C dL_sends_202 rfl ?_
          refine o_iald C hW2.ml (vp_in_nI (by omega) (by decide)) dL_sends_204 ?_
          rw [nI_clamp (by omega)]
          refine o_iload C dL_sends_205 rfl ?_
          refine o_ishr C dL_sends_207 ?_
          refine o_iconst (v := nI 1) C dL_sends_208 (by decide) ?_
          refine o_iand C dL_sends_209 ?_
          rw [hli9, lnkN]
          refine o_iconst (v := nI 1) C dL_sends_210 (by decide) ?_
          refine o_icmp_ne (tgt := 221) C dL_sends_211 (by decide) (fun c211 => ?_) (fun c211 => ?_)
          · rw [nI_eq (by omega) (by omega)] at c211
            refine o_iload C dL_sends_221 rfl ?_
            refine o_if_lt (tgt := 241) C dL_sends_223 (by decide) (fun c223 => False.elim (by rw [nz_lt (by omega)] at c223; omega)) (fun c223 => ?_)
            refine o_iload C dL_sends_226 rfl ?_
            refine o_iload C dL_sends_228 rfl ?_
            refine o_icmp_lt (tgt := 241) C dL_sends_230 (by decide) (fun c230 => ?_) (fun c230 => ?_)
            · rw [nI_ltI (by omega) (by omega)] at c230
              refine o_iload C dL_sends_241 rfl ?_
              refine o_ldc C dL_sends_243 wd_645 ?_
              refine o_icmp_ne (tgt := 265) C dL_sends_245 (by decide) (fun c245 => False.elim (c245 rfl)) (fun c245 => ?_)
              refine o_iload C dL_sends_248 rfl ?_
              refine o_if_ge (tgt := 261) C dL_sends_250 (by decide) (fun c250 => ?_) (fun c250 => False.elim (by rw [nz_ge (by omega)] at c250; omega))
              refine o_iconst (v := nI 1) C dL_sends_261 (by decide) ?_
              refine o_goto (tgt := 266) C dL_sends_262 (by decide) ?_
              refine o_zret C Rt dL_sends_266 (by show _ ≤ (200 : Nat); omega) (by show _ ≤ (2400 : Nat); omega) (by decide) ?_
              exact ⟨rfl, hW2.e rfl⟩
            · rw [nI_ltI (by omega) (by omega)] at c230
              refine o_aload_n C dL_sends_233 rfl ?_
              refine o_iconst (v := nI 1) C dL_sends_234 (by decide) ?_
              refine o_iald C hW2.mc (vp_in_nI (by omega) (by decide)) dL_sends_235 ?_
              rw [nI_clamp (by omega)]
              rw [show cF m t mo 1 = nI m from rfl]
              refine o_bipush (v := nI 60) C dL_sends_236 (by decide) ?_
              refine o_icmp_ne (tgt := 267) C dL_sends_238 (by decide) (fun c238 => False.elim (by rw [nI_eq (by omega) (by omega)] at c238; omega)) (fun c238 => ?_)
              refine o_iload C dL_sends_241 rfl ?_
              refine o_ldc C dL_sends_243 wd_645 ?_
              refine o_icmp_ne (tgt := 265) C dL_sends_245 (by decide) (fun c245 => False.elim (c245 rfl)) (fun c245 => ?_)
              refine o_iload C dL_sends_248 rfl ?_
              refine o_if_ge (tgt := 261) C dL_sends_250 (by decide) (fun c250 => ?_) (fun c250 => False.elim (by rw [nz_ge (by omega)] at c250; omega))
              refine o_iconst (v := nI 1) C dL_sends_261 (by decide) ?_
              refine o_goto (tgt := 266) C dL_sends_262 (by decide) ?_
              refine o_zret C Rt dL_sends_266 (by show _ ≤ (200 : Nat); omega) (by show _ ≤ (2400 : Nat); omega) (by decide) ?_
              exact ⟨rfl, hW2.e rfl⟩
          · rw [nI_eq (by omega) (by omega)] at c211
            refine o_iload C dL_sends_214 rfl ?_
            refine o_if_eq (tgt := 221) C dL_sends_216 (by decide) (fun c216 => ?_) (fun c216 => False.elim (by rw [nz_eq (by omega)] at c216; omega))
            refine o_iload C dL_sends_221 rfl ?_
            refine o_if_lt (tgt := 241) C dL_sends_223 (by decide) (fun c223 => False.elim (by rw [nz_lt (by omega)] at c223; omega)) (fun c223 => ?_)
            refine o_iload C dL_sends_226 rfl ?_
            refine o_iload C dL_sends_228 rfl ?_
            refine o_icmp_lt (tgt := 241) C dL_sends_230 (by decide) (fun c230 => ?_) (fun c230 => ?_)
            · rw [nI_ltI (by omega) (by omega)] at c230
              refine o_iload C dL_sends_241 rfl ?_
              refine o_ldc C dL_sends_243 wd_645 ?_
              refine o_icmp_ne (tgt := 265) C dL_sends_245 (by decide) (fun c245 => False.elim (c245 rfl)) (fun c245 => ?_)
              refine o_iload C dL_sends_248 rfl ?_
              refine o_if_ge (tgt := 261) C dL_sends_250 (by decide) (fun c250 => ?_) (fun c250 => False.elim (by rw [nz_ge (by omega)] at c250; omega))
              refine o_iconst (v := nI 1) C dL_sends_261 (by decide) ?_
              refine o_goto (tgt := 266) C dL_sends_262 (by decide) ?_
              refine o_zret C Rt dL_sends_266 (by show _ ≤ (200 : Nat); omega) (by show _ ≤ (2400 : Nat); omega) (by decide) ?_
              exact ⟨rfl, hW2.e rfl⟩
            · rw [nI_ltI (by omega) (by omega)] at c230
              refine o_aload_n C dL_sends_233 rfl ?_
              refine o_iconst (v := nI 1) C dL_sends_234 (by decide) ?_
              refine o_iald C hW2.mc (vp_in_nI (by omega) (by decide)) dL_sends_235 ?_
              rw [nI_clamp (by omega)]
              rw [show cF m t mo 1 = nI m from rfl]
              refine o_bipush (v := nI 60) C dL_sends_236 (by decide) ?_
              refine o_icmp_ne (tgt := 267) C dL_sends_238 (by decide) (fun c238 => False.elim (by rw [nI_eq (by omega) (by omega)] at c238; omega)) (fun c238 => ?_)
              refine o_iload C dL_sends_241 rfl ?_
              refine o_ldc C dL_sends_243 wd_645 ?_
              refine o_icmp_ne (tgt := 265) C dL_sends_245 (by decide) (fun c245 => False.elim (c245 rfl)) (fun c245 => ?_)
              refine o_iload C dL_sends_248 rfl ?_
              refine o_if_ge (tgt := 261) C dL_sends_250 (by decide) (fun c250 => ?_) (fun c250 => False.elim (by rw [nz_ge (by omega)] at c250; omega))
              refine o_iconst (v := nI 1) C dL_sends_261 (by decide) ?_
              refine o_goto (tgt := 266) C dL_sends_262 (by decide) ?_
              refine o_zret C Rt dL_sends_266 (by show _ ≤ (200 : Nat); omega) (by show _ ≤ (2400 : Nat); omega) (by decide) ?_
              exact ⟨rfl, hW2.e rfl⟩
        · cases w3 h2 hw
          obtain ⟨hI4, hS⟩ := sent_inv hI hm60l hi hj ho2 hF w4 w5 w8 (fun q hq => w11 q hq) w13 w14 hpu
          obtain ⟨T, hT⟩ : ∃ T, T = tauM (tset t2 3 i (upd (t2 3 i) 0 (t2 3 i 0 - wcost τ 7 i j hh))) m (fun _ => 0) (pr2 (nI hh) (wcost τ 7 i j hh)) (cpj (t2 13 0) (fun _ => 0) (hh + 1)) (cpj (t2 14 0) (fun _ => 0) (hh + 1)) := ⟨_, rfl⟩
          rw [← hT] at hI4 hS hR2
          obtain ⟨s1, s2, s3, s4, s5, s6⟩ := hS
          rw [w13, d0, nI_ltI (by omega) (by omega)] at hpu
          exact KS T ad2 M2 hI4 s1 s2 s3 s4 s5 s6 hR2 hm60l ha2 (by omega)
    have loop1 : ∀ (r : Nat) (k : Nat), k + r = 7 → ∀ bs : Nat, BSn τ i j bs → V X (5 + 6 * k) (30 + 36 * k) M 55 [some (.ref (ad 0 0)), some (.int (nI (x))), some (.ref ac), some (.ref ap), some (.ref al), some (.int (nI (i))), some (.int (nI (j))), some (.int (co)), some (.int (nI (ix (τ 3 i 0)))), some (.int (nI (bs))), some (.int (nI (k))), none, none, none, none] [] := by
      intro r
      induction r with
      | zero =>
        intro k hkr bs hbs
        refine o_iload C dL_sends_55 rfl ?_
        refine o_aload_n C dL_sends_57 rfl ?_
        refine o_iconst (v := nI 0) C dL_sends_58 (by decide) ?_
        refine o_iald C hW.mc (vp_in_nI (by omega) (by decide)) dL_sends_59 ?_
        rw [nI_clamp (by omega)]
        rw [show cF m t mo 0 = nI 7 from rfl]
        refine o_icmp_ge (tgt := 189) C dL_sends_60 (by decide) (fun c60 => ?_) (fun c60 => False.elim (by rw [nI_leI (by omega) (by omega)] at c60; omega))
        have hk : 7 = k := by omega
        subst hk
        exact V.hide 10 (K189 bs hbs)
      | succ r ih =>
        intro k hkr bs hbs
        have hbs1 := hbs.1
        have hlt : k < 7 := by omega
        obtain ⟨b0, b1, b2, b3, p0, q, b4, b5, b6, b7, bh⟩ := (hI.nd hlt).nat
        obtain ⟨hv, hv3, g4⟩ : ∃ hv, hv ≤ 2 ∧ τ 3 k 4 = nI hv := by
          rcases bh with ⟨a, _⟩ | ⟨a, _⟩ | ⟨a, _⟩
          · exact ⟨0, by omega, a⟩
          · exact ⟨1, by omega, a⟩
          · exact ⟨2, by omega, a⟩
        have hp0 : p (2 * k) = nI p0 := (hW.lr k hlt).1.trans b6
        have hl9 : l' k = τ 3 k 9 := (hW.lr k hlt).2.1
        have hli := lbn_le (τ 3 k 9) i
        have hlj := lbn_le (τ 3 k 9) j
        have hwk : ix (wgt (τ 3 k)) = p0 + (100 - q) / 10 := by
          unfold wgt
          rw [b6, b7, show (100 : Int32) = nI 100 from rfl, show (10 : Int32) = nI 10 from rfl, pk_sub b5, pk_div (by omega) (by decide) (by decide), nI_add, ix_nI (by omega)]
        have K138 : ∀ b : Nat, b ≤ 1 → (b = 1 → k ≠ i ∧ k ≠ j ∧ ovr τ i j k) → V X (5 + 6 * k + 4) (30 + 36 * k + 24) M 138 [some (.ref (ad 0 0)), some (.int (nI (x))), some (.ref ac), some (.ref ap), some (.ref al), some (.int (nI (i))), some (.int (nI (j))), some (.int (co)), some (.int (nI (ix (τ 3 i 0)))), some (.int (nI (bs))), some (.int (nI (k))), none, none, none, none] [.int (nI b)] := by
          intro b hb hb1
          refine o_istore (L' := [_, _, _, _, _, _, _, _, _, _, _, _, _, _, _]) C dL_sends_138 (by decide) rfl ?_
          refine o_aload_n C dL_sends_140 rfl ?_
          refine o_iconst (v := nI 2) C dL_sends_141 (by decide) ?_
          refine o_iload C dL_sends_142 rfl ?_
          refine o_imul C dL_sends_144 ?_
          rw [pk_mul]
          refine o_iald C hW.mp (vp_in_nI (by omega) (by decide)) dL_sends_145 ?_
          rw [nI_clamp (by omega)]
          rw [hp0]
          refine o_bipush (v := nI 100) C dL_sends_146 (by decide) ?_
          refine o_aload_n C dL_sends_148 rfl ?_
          refine o_iload C dL_sends_149 rfl ?_
          refine o_iconst (v := nI 2) C dL_sends_151 (by decide) ?_
          refine o_callV C mt_X5_nodeIs wd_508 wd_509 wd_507 cl_X5 hR.o0 (q_nis2 hl hR hm60 (i := k) (by omega) (w := nI (q)) b7) ⟨lb rfl, lb rfl, by show _ ≤ (200 : Nat); omega, by show _ ≤ (2400 : Nat); omega⟩ rfl (lb rfl) dL_sends_152 (fun _ _ h => h.elim) (fun v M2 hv => ?_)
          obtain ⟨rfl, rfl⟩ := hv
          refine o_isub C dL_sends_155 ?_
          rw [pk_sub (by omega)]
          refine o_bipush (v := nI 10) C dL_sends_156 (by decide) ?_
          refine o_idiv C dL_sends_158 (nI_ne0 (by omega) (by omega)) ?_
          rw [pk_div (by omega) (by omega) (by omega)]
          refine o_iadd C dL_sends_159 ?_
          rw [nI_add]
          refine o_istore (L' := [_, _, _, _, _, _, _, _, _, _, _, _, _, _, _]) C dL_sends_160 (by decide) rfl ?_
          refine o_iload C dL_sends_162 rfl ?_
          refine o_if_eq (tgt := 179) C dL_sends_164 (by decide) (fun c164 => ?_) (fun c164 => ?_)
          · rw [nz_eq (by omega)] at c164
            refine o_iload C dL_sends_179 rfl ?_
            refine o_istore (L' := [_, _, _, _, _, _, _, _, _, _, _, _, _, _, _]) C dL_sends_181 (by decide) rfl ?_
            refine o_iinc (L' := [_, _, _, _, _, _, _, _, _, _, _, _, _, _, _]) (y := nI (k + 1)) C dL_sends_183 rfl (by rw [show Int32.ofInt 1 = nI 1 from by decide]; exact nI_add _ _) (by decide) rfl ?_
            refine o_goto (tgt := 55) C dL_sends_186 (by decide) ?_
            exact V.hide 11 (V.hide 12 (V.widen (k' := 5 + 6 * (k + 1)) (n' := 30 + 36 * (k + 1)) (by omega) (by omega) (ih (k + 1) (by omega) _ hbs)))
          · rw [nz_eq (by omega)] at c164
            refine o_iload C dL_sends_167 rfl ?_
            refine o_iload C dL_sends_169 rfl ?_
            refine o_icmp_ge (tgt := 179) C dL_sends_171 (by decide) (fun c171 => ?_) (fun c171 => ?_)
            · rw [nI_leI (by omega) (by omega)] at c171
              refine o_iload C dL_sends_179 rfl ?_
              refine o_istore (L' := [_, _, _, _, _, _, _, _, _, _, _, _, _, _, _]) C dL_sends_181 (by decide) rfl ?_
              refine o_iinc (L' := [_, _, _, _, _, _, _, _, _, _, _, _, _, _, _]) (y := nI (k + 1)) C dL_sends_183 rfl (by rw [show Int32.ofInt 1 = nI 1 from by decide]; exact nI_add _ _) (by decide) rfl ?_
              refine o_goto (tgt := 55) C dL_sends_186 (by decide) ?_
              exact V.hide 11 (V.hide 12 (V.widen (k' := 5 + 6 * (k + 1)) (n' := 30 + 36 * (k + 1)) (by omega) (by omega) (ih (k + 1) (by omega) _ hbs)))
            · rw [nI_leI (by omega) (by omega)] at c171
              refine o_iload C dL_sends_174 rfl ?_
              refine o_goto (tgt := 181) C dL_sends_176 (by decide) ?_
              refine o_istore (L' := [_, _, _, _, _, _, _, _, _, _, _, _, _, _, _]) C dL_sends_181 (by decide) rfl ?_
              refine o_iinc (L' := [_, _, _, _, _, _, _, _, _, _, _, _, _, _, _]) (y := nI (k + 1)) C dL_sends_183 rfl (by rw [show Int32.ofInt 1 = nI 1 from by decide]; exact nI_add _ _) (by decide) rfl ?_
              refine o_goto (tgt := 55) C dL_sends_186 (by decide) ?_
              have hbb := hb1 (by omega)
              exact V.hide 11 (V.hide 12 (V.widen (k' := 5 + 6 * (k + 1)) (n' := 30 + 36 * (k + 1)) (by omega) (by omega) (ih (k + 1) (by omega) _ ⟨by omega, Or.inr ⟨k, hlt, hbb.1, hbb.2.1, hbb.2.2, hwk.symm⟩⟩)))
        refine o_iload C dL_sends_55 rfl ?_
        refine o_aload_n C dL_sends_57 rfl ?_
        refine o_iconst (v := nI 0) C dL_sends_58 (by decide) ?_
        refine o_iald C hW.mc (vp_in_nI (by omega) (by decide)) dL_sends_59 ?_
        rw [nI_clamp (by omega)]
        rw [show cF m t mo 0 = nI 7 from rfl]
        refine o_icmp_ge (tgt := 189) C dL_sends_60 (by decide) (fun c60 => False.elim (by rw [nI_leI (by omega) (by omega)] at c60; omega)) (fun c60 => ?_)
        refine o_iload C dL_sends_63 rfl ?_
        refine o_iload C dL_sends_65 rfl ?_
        refine o_icmp_eq (tgt := 137) C dL_sends_67 (by decide) (fun c67 => ?_) (fun c67 => ?_)
        · rw [nI_eq (by omega) (by omega)] at c67
          refine o_iconst (v := nI 0) C dL_sends_137 (by decide) ?_
          exact V.widen (k' := 5 + 6 * k + 4) (n' := 30 + 36 * k + 24) (by omega) (by omega) (K138 0 (by omega) (fun z => by omega))
        · rw [nI_eq (by omega) (by omega)] at c67
          refine o_iload C dL_sends_70 rfl ?_
          refine o_iload C dL_sends_72 rfl ?_
          refine o_icmp_eq (tgt := 137) C dL_sends_74 (by decide) (fun c74 => ?_) (fun c74 => ?_)
          · rw [nI_eq (by omega) (by omega)] at c74
            refine o_iconst (v := nI 0) C dL_sends_137 (by decide) ?_
            exact V.widen (k' := 5 + 6 * k + 4) (n' := 30 + 36 * k + 24) (by omega) (by omega) (K138 0 (by omega) (fun z => by omega))
          · rw [nI_eq (by omega) (by omega)] at c74
            refine o_aload C dL_sends_77 rfl ?_
            refine o_iload C dL_sends_79 rfl ?_
            refine o_iald C hW.ml (vp_in_nI (by omega) (by decide)) dL_sends_81 ?_
            rw [nI_clamp (by omega)]
            refine o_iload C dL_sends_82 rfl ?_
            refine o_ishr C dL_sends_84 ?_
            refine o_iconst (v := nI 1) C dL_sends_85 (by decide) ?_
            refine o_iand C dL_sends_86 ?_
            rw [hl9, lnkN]
            refine o_iconst (v := nI 1) C dL_sends_87 (by decide) ?_
            refine o_icmp_ne (tgt := 137) C dL_sends_88 (by decide) (fun c88 => ?_) (fun c88 => ?_)
            · rw [nI_eq (by omega) (by omega)] at c88
              refine o_iconst (v := nI 0) C dL_sends_137 (by decide) ?_
              exact V.widen (k' := 5 + 6 * k + 4) (n' := 30 + 36 * k + 24) (by omega) (by omega) (K138 0 (by omega) (fun z => by omega))
            · rw [nI_eq (by omega) (by omega)] at c88
              refine o_aload C dL_sends_91 rfl ?_
              refine o_iload C dL_sends_93 rfl ?_
              refine o_iald C hW.ml (vp_in_nI (by omega) (by decide)) dL_sends_95 ?_
              rw [nI_clamp (by omega)]
              refine o_iload C dL_sends_96 rfl ?_
              refine o_ishr C dL_sends_98 ?_
              refine o_iconst (v := nI 1) C dL_sends_99 (by decide) ?_
              refine o_iand C dL_sends_100 ?_
              rw [hl9, lnkN]
              refine o_iconst (v := nI 1) C dL_sends_101 (by decide) ?_
              refine o_icmp_ne (tgt := 137) C dL_sends_102 (by decide) (fun c102 => ?_) (fun c102 => ?_)
              · rw [nI_eq (by omega) (by omega)] at c102
                refine o_iconst (v := nI 0) C dL_sends_137 (by decide) ?_
                exact V.widen (k' := 5 + 6 * k + 4) (n' := 30 + 36 * k + 24) (by omega) (by omega) (K138 0 (by omega) (fun z => by omega))
              · rw [nI_eq (by omega) (by omega)] at c102
                refine o_aload_n C dL_sends_105 rfl ?_
                refine o_iload C dL_sends_106 rfl ?_
                refine o_iconst (v := nI 3) C dL_sends_108 (by decide) ?_
                refine o_callV C mt_X5_nodeIs wd_508 wd_509 wd_507 cl_X5 hR.o0 (q_nis3 hl hR hm60 (i := k) (by omega) (w := nI (hv)) g4) ⟨lb rfl, lb rfl, by show _ ≤ (200 : Nat); omega, by show _ ≤ (2400 : Nat); omega⟩ rfl (lb rfl) dL_sends_109 (fun _ _ h => h.elim) (fun v M2 hv => ?_)
                obtain ⟨rfl, rfl⟩ := hv
                refine o_if_ne (tgt := 137) C dL_sends_112 (by decide) (fun c112 => ?_) (fun c112 => ?_)
                · rw [nz_eq (by omega)] at c112
                  refine o_iconst (v := nI 0) C dL_sends_137 (by decide) ?_
                  exact V.widen (k' := 5 + 6 * k + 4) (n' := 30 + 36 * k + 24) (by omega) (by omega) (K138 0 (by omega) (fun z => by omega))
                · rw [nz_eq (by omega)] at c112
                  refine o_aload_n C dL_sends_115 rfl ?_
                  refine o_iload C dL_sends_116 rfl ?_
                  refine o_iconst (v := nI 1) C dL_sends_118 (by decide) ?_
                  refine o_callV C mt_X5_nodeIs wd_508 wd_509 wd_507 cl_X5 hR.o0 (q_nis1 hl hR hm60 (i := k) (by omega) (w := nI (ix (τ 3 k 1))) b2) ⟨lb rfl, lb rfl, by show _ ≤ (200 : Nat); omega, by show _ ≤ (2400 : Nat); omega⟩ rfl (lb rfl) dL_sends_119 (fun _ _ h => h.elim) (fun v M2 hv => ?_)
                  obtain ⟨rfl, rfl⟩ := hv
                  refine o_iconst (v := nI 2) C dL_sends_122 (by decide) ?_
                  refine o_aload_n C dL_sends_123 rfl ?_
                  refine o_iconst (v := nI 2) C dL_sends_124 (by decide) ?_
                  refine o_iload C dL_sends_125 rfl ?_
                  refine o_imul C dL_sends_127 ?_
                  rw [pk_mul]
                  refine o_iald C hW.mp (vp_in_nI (by omega) (by decide)) dL_sends_128 ?_
                  rw [nI_clamp (by omega)]
                  rw [hp0]
                  refine o_imul C dL_sends_129 ?_
                  rw [pk_mul]
                  refine o_icmp_lt (tgt := 137) C dL_sends_130 (by decide) (fun c130 => ?_) (fun c130 => ?_)
                  · rw [nI_ltI (by omega) (by omega)] at c130
                    refine o_iconst (v := nI 0) C dL_sends_137 (by decide) ?_
                    exact V.widen (k' := 5 + 6 * k + 4) (n' := 30 + 36 * k + 24) (by omega) (by omega) (K138 0 (by omega) (fun z => by omega))
                  · rw [nI_ltI (by omega) (by omega)] at c130
                    refine o_iconst (v := nI 1) C dL_sends_133 (by decide) ?_
                    refine o_goto (tgt := 138) C dL_sends_134 (by decide) ?_
                    refine V.widen (k' := 5 + 6 * k + 4) (n' := 30 + 36 * k + 24) (by omega) (by omega) (K138 1 (by omega) (fun _ => ⟨c67, c74, (hI.sym hlt hi).mp (lbn_1.mp c88), lbn_1.mp c102, rlyB_iff.mpr ⟨by rw [g4, c112]; rfl, ?_⟩⟩))
                    rw [b2, b6, n2, pk_mul, nI_ltI (by omega) (by omega)]
                    omega
    refine o_istore (L' := [_, _, _, _, _, _, _, _, _, _, _, _, _, _, _]) C dL_sends_36 (by decide) rfl ?_
    refine o_aload_n C dL_sends_38 rfl ?_
    refine o_iload C dL_sends_39 rfl ?_
    refine o_iconst (v := nI 0) C dL_sends_41 (by decide) ?_
    refine o_callV C mt_X5_nodeIs wd_508 wd_509 wd_507 cl_X5 hR.o0 (q_nis0 hl hR hm60 (i := i) (by omega) (w := nI (ix (τ 3 i 0))) d0) ⟨lb rfl, lb rfl, by show _ ≤ (200 : Nat); omega, by show _ ≤ (2400 : Nat); omega⟩ rfl (lb rfl) dL_sends_42 (fun _ _ h => h.elim) (fun v M2 hv => ?_)
    obtain ⟨rfl, rfl⟩ := hv
    refine o_istore (L' := [_, _, _, _, _, _, _, _, _, _, _, _, _, _, _]) C dL_sends_45 (by decide) rfl ?_
    refine o_sipush (v := nI 9999) C dL_sends_47 (by decide) ?_
    refine o_istore (L' := [_, _, _, _, _, _, _, _, _, _, _, _, _, _, _]) C dL_sends_50 (by decide) rfl ?_
    refine o_iconst (v := nI 0) C dL_sends_52 (by decide) ?_
    refine o_istore (L' := [_, _, _, _, _, _, _, _, _, _, _, _, _, _, _]) C dL_sends_53 (by decide) rfl ?_
    exact loop1 7 0 (by omega) 9999 ⟨Nat.le_refl _, Or.inl rfl⟩
  refine o_iload_n C dL_sends_0 rfl ?_
  refine o_aload_n C dL_sends_1 rfl ?_
  refine o_iconst (v := nI 0) C dL_sends_2 (by decide) ?_
  refine o_iald C hW.mc (vp_in_nI (by omega) (by decide)) dL_sends_3 ?_
  rw [nI_clamp (by omega)]
  rw [show cF m t mo 0 = nI 7 from rfl]
  refine o_irem C dL_sends_4 (nI_ne0 (by omega) (by omega)) ?_
  rw [pk_rem (by omega) (by omega) (by omega), ← hi7]
  refine o_istore (L' := [_, _, _, _, _, _, _, _, _, _, _, _, _, _, _]) C dL_sends_5 (by decide) rfl ?_
  refine o_iload C dL_sends_7 rfl ?_
  refine o_iconst (v := nI 1) C dL_sends_9 (by decide) ?_
  refine o_iadd C dL_sends_10 ?_
  rw [nI_add]
  refine o_iload_n C dL_sends_11 rfl ?_
  refine o_bipush (v := nI 12) C dL_sends_12 (by decide) ?_
  refine o_idiv C dL_sends_14 (nI_ne0 (by omega) (by omega)) ?_
  rw [pk_div (by omega) (by omega) (by omega)]
  refine o_aload_n C dL_sends_15 rfl ?_
  refine o_iconst (v := nI 0) C dL_sends_16 (by decide) ?_
  refine o_iald C hW.mc (vp_in_nI (by omega) (by decide)) dL_sends_17 ?_
  rw [nI_clamp (by omega)]
  rw [show cF m t mo 0 = nI 7 from rfl]
  refine o_iconst (v := nI 1) C dL_sends_18 (by decide) ?_
  refine o_isub C dL_sends_19 ?_
  rw [pk_sub (by omega)]
  refine o_irem C dL_sends_20 (nI_ne0 (by omega) (by omega)) ?_
  rw [pk_rem (by omega) (by omega) (by omega)]
  refine o_iadd C dL_sends_21 ?_
  rw [nI_add]
  refine o_aload_n C dL_sends_22 rfl ?_
  refine o_iconst (v := nI 0) C dL_sends_23 (by decide) ?_
  refine o_iald C hW.mc (vp_in_nI (by omega) (by decide)) dL_sends_24 ?_
  rw [nI_clamp (by omega)]
  rw [show cF m t mo 0 = nI 7 from rfl]
  refine o_irem C dL_sends_25 (nI_ne0 (by omega) (by omega)) ?_
  rw [pk_rem (by omega) (by omega) (by omega), ← hj7]
  refine o_istore (L' := [_, _, _, _, _, _, _, _, _, _, _, _, _, _, _]) C dL_sends_26 (by decide) rfl ?_
  refine o_aload_n C dL_sends_28 rfl ?_
  refine o_iload C dL_sends_29 rfl ?_
  refine o_iload C dL_sends_31 rfl ?_
  refine o_callV C mt_X5_cost wd_454 wd_455 wd_453 cl_X5 hW.rep.o0 (q_cost hl hW (i := i) (j := j) hi hj hij) ⟨lb rfl, lb rfl, by show _ ≤ (200 : Nat); omega, by show _ ≤ (2400 : Nat); omega⟩ rfl (lb rfl) dL_sends_33 (fun _ _ h => h.elim) (fun v M2 hv => ?_)
  obtain ⟨T1, co, rfl, hW1, hcd⟩ := hv
  exact K36 T1 M2 co hW1 hcd

