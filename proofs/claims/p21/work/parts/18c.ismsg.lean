/-! ===== isMessage ===== -/
theorem V.hide {X : CtxT} {k n : Nat} {M : Mm} {pc : Nat} {L : List (Option Value)} {st : List Value} (j : Nat) (K : V X k n M pc (L.set j none) st) : V X k n M pc L st := V.sub (L' := L.set j none) (fun i v h => by
  by_cases c : j = i
  · subst c
    rw [List.getElem?_set] at h
    simp at h
  · rwa [List.getElem?_set_ne c] at h) K
theorem ne_m1 {a : Nat} (h : a < 2 ^ 31) : ¬ nI a = -1 := fun z => by
  have e := congrArg Int32.toInt z
  rw [nI_toInt h] at e
  have : (-1 : Int32).toInt = -1 := by decide
  omega
/-- a message in numbers -/
theorem MSI.nat {f6 f7 f8 f9 : Nat → Int32} (h : MSI f6 f7 f8 f9 7) : ∃ hh pl hv rc bk fs cs : Nat, 1 ≤ hh ∧ hh ≤ 11 ∧ pl ≤ hh ∧ f7 0 = nI hh ∧ f6 0 = nI hv ∧ f6 1 = nI pl ∧ f6 2 = nI rc ∧ f6 3 = nI bk ∧ f6 4 = nI fs ∧ f7 1 = nI cs ∧ cs ≤ 550 ∧ (∀ q, q ≤ hh → ix (f8 q) < 7 ∧ f8 q = nI (ix (f8 q))) ∧ (∀ q r, q < r → r ≤ hh → ix (f8 q) ≠ ix (f8 r)) ∧
    ((hv = 0 ∧ pl < hh ∧ rc = pl ∧ bk = 0 ∧ fs = 0) ∨ (hv = 1 ∧ pl = hh ∧ rc + 1 = pl ∧ bk = 0 ∧ fs = 0) ∨ (hv = 2 ∧ 1 ≤ pl ∧ pl < hh ∧ rc + 1 = pl ∧ bk + fs ≤ cs)) := by
  obtain ⟨hh, pl, g, ⟨a1, a2, a3, a4⟩, a5, a6, a7, a8, a9⟩ := h
  have hb := psum_b (g := g) (hh - 1) (fun q hq => (a7 q (by omega)).1)
  have h5 : ∀ q, q ≤ hh → ix (f8 q) < 7 ∧ f8 q = nI (ix (f8 q)) := fun q hq => by
    obtain ⟨x, x1, x2⟩ := a5 q hq
    rw [x2, ix_nI (by omega)]
    exact ⟨x1, rfl⟩
  have h6 : ∀ q r, q < r → r ≤ hh → ix (f8 q) ≠ ix (f8 r) := fun q r z1 z2 z => a6 q r z1 z2 (by rw [(h5 q (by omega)).2, (h5 r z2).2, z])
  rcases a9 with ⟨b1, b2, b3, b4, b5⟩ | ⟨b1, b2, b3, b4, b5⟩ | ⟨b1, b2, b3, b4, bk, fs, b5, b6, b7⟩
  · exact ⟨hh, pl, 0, pl, 0, 0, _, a1, a2, by omega, a3, b1, a4, b3, b4, b5, a8, by omega, h5, h6, Or.inl ⟨rfl, b2, rfl, rfl, rfl⟩⟩
  · exact ⟨hh, pl, 1, pl - 1, 0, 0, _, a1, a2, by omega, a3, b1, a4, b3, b4, b5, a8, by omega, h5, h6, Or.inr (Or.inl ⟨rfl, b2, by omega, rfl, rfl⟩)⟩
  · exact ⟨hh, pl, 2, pl - 1, bk, fs, _, a1, a2, by omega, a3, b1, a4, b4, b5, b6, a8, by omega, h5, h6, Or.inr (Or.inr ⟨rfl, b2, b3, by omega, b7⟩)⟩
/-- where the message was seen among the first q nodes of its way -/
def atV (pl q : Nat) : Int32 := if pl < q then nI pl else -1
/-- the nodes that were seen, as bits -/
def TH (th : Int32) (x : Nat → Nat) (q : Nat) : Prop := ∀ b, b < 12 → (lnkB th b = true ↔ ∃ r, r < q ∧ x r = b)
theorem TH.next {th : Int32} {x : Nat → Nat} {q : Nat} (h : TH th x q) (hx : x q < 12) : TH (th ||| (nI 1 <<< (nI (x q) &&& 31))) x (q + 1) := fun b hb => by
  have e1 : bt (nI 1 <<< (nI (x q) &&& 31)) b = decide (b = x q) := by
    show bt ((1 : Int32) <<< _) b = _
    rw [b_shl (x q) (by omega) 1 (by omega), bt1 (b - x q) (by omega)]
    by_cases c : b = x q
    · rw [c]; simp
    · by_cases c2 : x q ≤ b
      · have : ¬ b - x q = 0 := by omega
        simp [c, c2, this]
      · simp [c, c2]
  have h1 := h b hb
  rw [lnkB_bt hb] at h1
  rw [lnkB_bt hb, b_or, e1, Bool.or_eq_true, h1, decide_eq_true_iff]
  constructor
  · rintro (⟨r, r1, r2⟩ | z)
    · exact ⟨r, by omega, r2⟩
    · exact ⟨q, by omega, z.symm⟩
  · rintro ⟨r, r1, r2⟩
    by_cases c : r = q
    · subst c; exact Or.inr r2.symm
    · exact Or.inl ⟨r, by omega, r2⟩
set_option maxRecDepth 100000 in
set_option maxHeartbeats 4000000 in
theorem c_L_isMessage {l : Launch} {G : GT} (hl : l.stackTraces = false) {ac ap al at' : Nat} {ad : Nat → Nat → Nat} {m t mo : Nat} {τ : T3} {p l' tt : Nat → Int32} {N M : Mm} (hW : LW G ac ap al at' ad m t mo τ p l' tt N M) {k : Nat} (hk : k < m) : Con l G yL_isMessage (.code yL_isMessage method_4_code 12 (some FieldType.boolean)) 12 210 [.ref (ad 0 0), .int (nI k), .ref ac] M (fun v M' => v = some (.int 1) ∧ M = M') (noX) 90 540 := by
  refine con_of hl (by decide +kernel) (acc rfl (acc rfl (acc rfl ac0))) (lb rfl) ?_
  intro X hlX hGX C Rt hnx hnm
  subst hlX hGX
  have hm60 := hW.inv.m60
  have hR := hW.rep
  obtain ⟨hh, pl, hv, rc, bk, fs, cs, a1, a2, a0, a3, e0, a5, e4, e3, e5, e2, a10, a12, a13, hst⟩ := (hW.inv.ms hk).nat
  have e1 : onA (τ 8 k) (τ 7 k 0) (τ 6 k 1) (-1) = nI (ix (τ 8 k pl)) := by rw [a3, a5, on_in a0 a2]; exact (a12 pl a0).2
  have hv2 : hv ≤ 2 := by omega
  have hrc : rc ≤ 11 := by omega
  have hbf : bk + fs ≤ 550 := by omega
  show V X 0 0 M 0 [some (.ref (ad 0 0)), some (.int (nI k)), some (.ref ac), none, none, none, none, none, none, none, none, none] []
  have K129 : ∀ th : Int32, V X (2 + 6 * (hh + 1) + 2) (12 + 36 * (hh + 1) + 12) M 129 [some (.ref (ad 0 0)), some (.int (nI (k))), some (.ref ac), some (.int (nI (hv))), some (.int (th)), some (.int (nI (hh + 1))), some (.int (nI (pl))), some (.int (nI (1))), none, none, none, none] [] := by
    intro th
    refine o_aload_n C dL_isMessage_129 rfl ?_
    refine o_iload_n C dL_isMessage_130 rfl ?_
    refine o_iconst (v := nI 4) C dL_isMessage_131 (by decide) ?_
    refine o_callV C mt_X5_message wd_634 wd_635 wd_633 cl_X5 hR.o0 (q_msg4 hl hR hm60 (i := k) (by omega) (w := nI (rc)) e4) ⟨lb rfl, lb rfl, by show _ ≤ (90 : Nat); omega, by show _ ≤ (540 : Nat); omega⟩ rfl (lb rfl) dL_isMessage_132 (fun _ _ h => h.elim) (fun v M2 hv => ?_)
    obtain ⟨rfl, rfl⟩ := hv
    refine o_istore (L' := [_, _, _, _, _, _, _, _, _, _, _, _]) C dL_isMessage_135 (by decide) rfl ?_
    refine o_aload_n C dL_isMessage_137 rfl ?_
    refine o_iload_n C dL_isMessage_138 rfl ?_
    refine o_iconst (v := nI 2) C dL_isMessage_139 (by decide) ?_
    refine o_callV C mt_X5_message wd_634 wd_635 wd_633 cl_X5 hR.o0 (q_msg2 hl hR hm60 (i := k) (by omega) (w := nI (cs)) e2) ⟨lb rfl, lb rfl, by show _ ≤ (90 : Nat); omega, by show _ ≤ (540 : Nat); omega⟩ rfl (lb rfl) dL_isMessage_140 (fun _ _ h => h.elim) (fun v M2 hv => ?_)
    obtain ⟨rfl, rfl⟩ := hv
    refine o_istore (L' := [_, _, _, _, _, _, _, _, _, _, _, _]) C dL_isMessage_143 (by decide) rfl ?_
    refine o_aload_n C dL_isMessage_145 rfl ?_
    refine o_iload_n C dL_isMessage_146 rfl ?_
    refine o_iconst (v := nI 3) C dL_isMessage_147 (by decide) ?_
    refine o_callV C mt_X5_message wd_634 wd_635 wd_633 cl_X5 hR.o0 (q_msg3 hl hR hm60 (i := k) (by omega) (w := nI (bk)) e3) ⟨lb rfl, lb rfl, by show _ ≤ (90 : Nat); omega, by show _ ≤ (540 : Nat); omega⟩ rfl (lb rfl) dL_isMessage_148 (fun _ _ h => h.elim) (fun v M2 hv => ?_)
    obtain ⟨rfl, rfl⟩ := hv
    refine o_istore (L' := [_, _, _, _, _, _, _, _, _, _, _, _]) C dL_isMessage_151 (by decide) rfl ?_
    refine o_aload_n C dL_isMessage_153 rfl ?_
    refine o_iload_n C dL_isMessage_154 rfl ?_
    refine o_iconst (v := nI 5) C dL_isMessage_155 (by decide) ?_
    refine o_callV C mt_X5_message wd_634 wd_635 wd_633 cl_X5 hR.o0 (q_msg5 hl hR hm60 (i := k) (by omega) (w := nI (fs)) e5) ⟨lb rfl, lb rfl, by show _ ≤ (90 : Nat); omega, by show _ ≤ (540 : Nat); omega⟩ rfl (lb rfl) dL_isMessage_156 (fun _ _ h => h.elim) (fun v M2 hv => ?_)
    obtain ⟨rfl, rfl⟩ := hv
    refine o_istore (L' := [_, _, _, _, _, _, _, _, _, _, _, _]) C dL_isMessage_159 (by decide) rfl ?_
    refine o_iload C dL_isMessage_161 rfl ?_
    refine o_if_eq (tgt := 259) C dL_isMessage_163 (by decide) (fun c163 => False.elim (by rw [nz_eq (by omega)] at c163; omega)) (fun c163 => ?_)
    refine o_iload C dL_isMessage_166 rfl ?_
    refine o_iconst (v := nI 1) C dL_isMessage_168 (by decide) ?_
    refine o_icmp_le (tgt := 259) C dL_isMessage_169 (by decide) (fun c169 => False.elim (by rw [nI_leI (by omega) (by omega)] at c169; omega)) (fun c169 => ?_)
    refine o_aload_n C dL_isMessage_172 rfl ?_
    refine o_iload_n C dL_isMessage_173 rfl ?_
    refine o_iload C dL_isMessage_174 rfl ?_
    refine o_iconst (v := nI 1) C dL_isMessage_176 (by decide) ?_
    refine o_iadd C dL_isMessage_177 ?_
    rw [nI_add]
    refine o_callV C mt_X5_way wd_647 wd_648 wd_646 cl_X5 hR.o0 (q_way hl hR hm60 (i := k) (q := (hh + 1) + 1) (by omega) (by omega) (w := (-1)) (by rw [a3]; exact on_out (by omega) (by omega))) ⟨lb rfl, lb rfl, by show _ ≤ (90 : Nat); omega, by show _ ≤ (540 : Nat); omega⟩ rfl (lb rfl) dL_isMessage_178 (fun _ _ h => h.elim) (fun v M2 hv => ?_)
    obtain ⟨rfl, rfl⟩ := hv
    refine o_iconst (v := (-1)) C dL_isMessage_181 (by decide) ?_
    refine o_icmp_ne (tgt := 259) C dL_isMessage_182 (by decide) (fun c182 => False.elim (c182 rfl)) (fun c182 => ?_)
    refine o_iload C dL_isMessage_185 rfl ?_
    refine o_iload_n C dL_isMessage_187 rfl ?_
    refine o_if_ne (tgt := 196) C dL_isMessage_188 (by decide) (fun c188 => ?_) (fun c188 => ?_)
    · rw [nz_eq (by omega)] at c188
      refine o_iload C dL_isMessage_196 rfl ?_
      refine o_iconst (v := nI 1) C dL_isMessage_198 (by decide) ?_
      refine o_isub C dL_isMessage_199 ?_
      rw [pk_sub (by omega)]
      refine o_icmp_ne (tgt := 259) C dL_isMessage_200 (by decide) (fun c200 => False.elim (by rw [nI_eq (by omega) (by omega)] at c200; omega)) (fun c200 => ?_)
      refine o_iload_n C dL_isMessage_203 rfl ?_
      refine o_if_ne (tgt := 224) C dL_isMessage_204 (by decide) (fun c204 => ?_) (fun c204 => ?_)
      · rw [nz_eq (by omega)] at c204
        refine o_iload_n C dL_isMessage_224 rfl ?_
        refine o_iconst (v := nI 1) C dL_isMessage_225 (by decide) ?_
        refine o_icmp_ne (tgt := 241) C dL_isMessage_226 (by decide) (fun c226 => ?_) (fun c226 => ?_)
        · rw [nI_eq (by omega) (by omega)] at c226
          refine o_iload C dL_isMessage_241 rfl ?_
          refine o_if_le (tgt := 259) C dL_isMessage_243 (by decide) (fun c243 => False.elim (by rw [nz_le (by omega)] at c243; omega)) (fun c243 => ?_)
          refine o_iload C dL_isMessage_246 rfl ?_
          refine o_iload C dL_isMessage_248 rfl ?_
          refine o_iconst (v := nI 1) C dL_isMessage_250 (by decide) ?_
          refine o_isub C dL_isMessage_251 ?_
          rw [pk_sub (by omega)]
          refine o_icmp_ge (tgt := 259) C dL_isMessage_252 (by decide) (fun c252 => False.elim (by rw [nI_leI (by omega) (by omega)] at c252; omega)) (fun c252 => ?_)
          refine o_iconst (v := nI 1) C dL_isMessage_255 (by decide) ?_
          refine o_goto (tgt := 260) C dL_isMessage_256 (by decide) ?_
          refine o_istore (L' := [_, _, _, _, _, _, _, _, _, _, _, _]) C dL_isMessage_260 (by decide) rfl ?_
          refine o_iload C dL_isMessage_262 rfl ?_
          refine o_if_eq (tgt := 321) C dL_isMessage_264 (by decide) (fun c264 => False.elim (by rw [nz_eq (by omega)] at c264; omega)) (fun c264 => ?_)
          refine o_iload C dL_isMessage_267 rfl ?_
          refine o_if_lt (tgt := 321) C dL_isMessage_269 (by decide) (fun c269 => False.elim (by rw [nz_lt (by omega)] at c269; omega)) (fun c269 => ?_)
          refine o_iload C dL_isMessage_272 rfl ?_
          refine o_if_lt (tgt := 321) C dL_isMessage_274 (by decide) (fun c274 => False.elim (by rw [nz_lt (by omega)] at c274; omega)) (fun c274 => ?_)
          refine o_iload C dL_isMessage_277 rfl ?_
          refine o_if_lt (tgt := 321) C dL_isMessage_279 (by decide) (fun c279 => False.elim (by rw [nz_lt (by omega)] at c279; omega)) (fun c279 => ?_)
          refine o_iload C dL_isMessage_282 rfl ?_
          refine o_iload C dL_isMessage_284 rfl ?_
          refine o_icmp_gt (tgt := 321) C dL_isMessage_286 (by decide) (fun c286 => False.elim (by rw [nI_ltI (by omega) (by omega)] at c286; omega)) (fun c286 => ?_)
          refine o_iload_n C dL_isMessage_289 rfl ?_
          refine o_iconst (v := nI 2) C dL_isMessage_290 (by decide) ?_
          refine o_icmp_ne (tgt := 307) C dL_isMessage_291 (by decide) (fun c291 => ?_) (fun c291 => ?_)
          · rw [nI_eq (by omega) (by omega)] at c291
            refine o_iload C dL_isMessage_307 rfl ?_
            refine o_if_ne (tgt := 321) C dL_isMessage_309 (by decide) (fun c309 => False.elim (by rw [nz_eq (by omega)] at c309; omega)) (fun c309 => ?_)
            refine o_iload C dL_isMessage_312 rfl ?_
            refine o_if_ne (tgt := 321) C dL_isMessage_314 (by decide) (fun c314 => False.elim (by rw [nz_eq (by omega)] at c314; omega)) (fun c314 => ?_)
            refine o_iconst (v := nI 1) C dL_isMessage_317 (by decide) ?_
            refine o_goto (tgt := 322) C dL_isMessage_318 (by decide) ?_
            refine o_zret C Rt dL_isMessage_322 (by show _ ≤ (90 : Nat); omega) (by show _ ≤ (540 : Nat); omega) (by decide) ?_
            exact ⟨rfl, rfl⟩
          · rw [nI_eq (by omega) (by omega)] at c291
            refine o_iload C dL_isMessage_294 rfl ?_
            refine o_iload C dL_isMessage_296 rfl ?_
            refine o_iload C dL_isMessage_298 rfl ?_
            refine o_isub C dL_isMessage_300 ?_
            rw [pk_sub (by omega)]
            refine o_icmp_gt (tgt := 321) C dL_isMessage_301 (by decide) (fun c301 => False.elim (by rw [nI_ltI (by omega) (by omega)] at c301; omega)) (fun c301 => ?_)
            refine o_goto (tgt := 317) C dL_isMessage_304 (by decide) ?_
            refine o_iconst (v := nI 1) C dL_isMessage_317 (by decide) ?_
            refine o_goto (tgt := 322) C dL_isMessage_318 (by decide) ?_
            refine o_zret C Rt dL_isMessage_322 (by show _ ≤ (90 : Nat); omega) (by show _ ≤ (540 : Nat); omega) (by decide) ?_
            exact ⟨rfl, rfl⟩
        · rw [nI_eq (by omega) (by omega)] at c226
          refine o_iload C dL_isMessage_229 rfl ?_
          refine o_iload C dL_isMessage_231 rfl ?_
          refine o_iconst (v := nI 1) C dL_isMessage_233 (by decide) ?_
          refine o_isub C dL_isMessage_234 ?_
          rw [pk_sub (by omega)]
          refine o_icmp_ne (tgt := 259) C dL_isMessage_235 (by decide) (fun c235 => False.elim (by rw [nI_eq (by omega) (by omega)] at c235; omega)) (fun c235 => ?_)
          refine o_goto (tgt := 255) C dL_isMessage_238 (by decide) ?_
          refine o_iconst (v := nI 1) C dL_isMessage_255 (by decide) ?_
          refine o_goto (tgt := 260) C dL_isMessage_256 (by decide) ?_
          refine o_istore (L' := [_, _, _, _, _, _, _, _, _, _, _, _]) C dL_isMessage_260 (by decide) rfl ?_
          refine o_iload C dL_isMessage_262 rfl ?_
          refine o_if_eq (tgt := 321) C dL_isMessage_264 (by decide) (fun c264 => False.elim (by rw [nz_eq (by omega)] at c264; omega)) (fun c264 => ?_)
          refine o_iload C dL_isMessage_267 rfl ?_
          refine o_if_lt (tgt := 321) C dL_isMessage_269 (by decide) (fun c269 => False.elim (by rw [nz_lt (by omega)] at c269; omega)) (fun c269 => ?_)
          refine o_iload C dL_isMessage_272 rfl ?_
          refine o_if_lt (tgt := 321) C dL_isMessage_274 (by decide) (fun c274 => False.elim (by rw [nz_lt (by omega)] at c274; omega)) (fun c274 => ?_)
          refine o_iload C dL_isMessage_277 rfl ?_
          refine o_if_lt (tgt := 321) C dL_isMessage_279 (by decide) (fun c279 => False.elim (by rw [nz_lt (by omega)] at c279; omega)) (fun c279 => ?_)
          refine o_iload C dL_isMessage_282 rfl ?_
          refine o_iload C dL_isMessage_284 rfl ?_
          refine o_icmp_gt (tgt := 321) C dL_isMessage_286 (by decide) (fun c286 => False.elim (by rw [nI_ltI (by omega) (by omega)] at c286; omega)) (fun c286 => ?_)
          refine o_iload_n C dL_isMessage_289 rfl ?_
          refine o_iconst (v := nI 2) C dL_isMessage_290 (by decide) ?_
          refine o_icmp_ne (tgt := 307) C dL_isMessage_291 (by decide) (fun c291 => ?_) (fun c291 => ?_)
          · rw [nI_eq (by omega) (by omega)] at c291
            refine o_iload C dL_isMessage_307 rfl ?_
            refine o_if_ne (tgt := 321) C dL_isMessage_309 (by decide) (fun c309 => False.elim (by rw [nz_eq (by omega)] at c309; omega)) (fun c309 => ?_)
            refine o_iload C dL_isMessage_312 rfl ?_
            refine o_if_ne (tgt := 321) C dL_isMessage_314 (by decide) (fun c314 => False.elim (by rw [nz_eq (by omega)] at c314; omega)) (fun c314 => ?_)
            refine o_iconst (v := nI 1) C dL_isMessage_317 (by decide) ?_
            refine o_goto (tgt := 322) C dL_isMessage_318 (by decide) ?_
            refine o_zret C Rt dL_isMessage_322 (by show _ ≤ (90 : Nat); omega) (by show _ ≤ (540 : Nat); omega) (by decide) ?_
            exact ⟨rfl, rfl⟩
          · rw [nI_eq (by omega) (by omega)] at c291
            refine o_iload C dL_isMessage_294 rfl ?_
            refine o_iload C dL_isMessage_296 rfl ?_
            refine o_iload C dL_isMessage_298 rfl ?_
            refine o_isub C dL_isMessage_300 ?_
            rw [pk_sub (by omega)]
            refine o_icmp_gt (tgt := 321) C dL_isMessage_301 (by decide) (fun c301 => False.elim (by rw [nI_ltI (by omega) (by omega)] at c301; omega)) (fun c301 => ?_)
            refine o_goto (tgt := 317) C dL_isMessage_304 (by decide) ?_
            refine o_iconst (v := nI 1) C dL_isMessage_317 (by decide) ?_
            refine o_goto (tgt := 322) C dL_isMessage_318 (by decide) ?_
            refine o_zret C Rt dL_isMessage_322 (by show _ ≤ (90 : Nat); omega) (by show _ ≤ (540 : Nat); omega) (by decide) ?_
            exact ⟨rfl, rfl⟩
      · rw [nz_eq (by omega)] at c204
        refine o_iload C dL_isMessage_207 rfl ?_
        refine o_if_lt (tgt := 259) C dL_isMessage_209 (by decide) (fun c209 => False.elim (by rw [nz_lt (by omega)] at c209; omega)) (fun c209 => ?_)
        refine o_iload C dL_isMessage_212 rfl ?_
        refine o_iload C dL_isMessage_214 rfl ?_
        refine o_iconst (v := nI 1) C dL_isMessage_216 (by decide) ?_
        refine o_isub C dL_isMessage_217 ?_
        rw [pk_sub (by omega)]
        refine o_icmp_ge (tgt := 259) C dL_isMessage_218 (by decide) (fun c218 => False.elim (by rw [nI_leI (by omega) (by omega)] at c218; omega)) (fun c218 => ?_)
        refine o_goto (tgt := 255) C dL_isMessage_221 (by decide) ?_
        refine o_iconst (v := nI 1) C dL_isMessage_255 (by decide) ?_
        refine o_goto (tgt := 260) C dL_isMessage_256 (by decide) ?_
        refine o_istore (L' := [_, _, _, _, _, _, _, _, _, _, _, _]) C dL_isMessage_260 (by decide) rfl ?_
        refine o_iload C dL_isMessage_262 rfl ?_
        refine o_if_eq (tgt := 321) C dL_isMessage_264 (by decide) (fun c264 => False.elim (by rw [nz_eq (by omega)] at c264; omega)) (fun c264 => ?_)
        refine o_iload C dL_isMessage_267 rfl ?_
        refine o_if_lt (tgt := 321) C dL_isMessage_269 (by decide) (fun c269 => False.elim (by rw [nz_lt (by omega)] at c269; omega)) (fun c269 => ?_)
        refine o_iload C dL_isMessage_272 rfl ?_
        refine o_if_lt (tgt := 321) C dL_isMessage_274 (by decide) (fun c274 => False.elim (by rw [nz_lt (by omega)] at c274; omega)) (fun c274 => ?_)
        refine o_iload C dL_isMessage_277 rfl ?_
        refine o_if_lt (tgt := 321) C dL_isMessage_279 (by decide) (fun c279 => False.elim (by rw [nz_lt (by omega)] at c279; omega)) (fun c279 => ?_)
        refine o_iload C dL_isMessage_282 rfl ?_
        refine o_iload C dL_isMessage_284 rfl ?_
        refine o_icmp_gt (tgt := 321) C dL_isMessage_286 (by decide) (fun c286 => False.elim (by rw [nI_ltI (by omega) (by omega)] at c286; omega)) (fun c286 => ?_)
        refine o_iload_n C dL_isMessage_289 rfl ?_
        refine o_iconst (v := nI 2) C dL_isMessage_290 (by decide) ?_
        refine o_icmp_ne (tgt := 307) C dL_isMessage_291 (by decide) (fun c291 => ?_) (fun c291 => ?_)
        · rw [nI_eq (by omega) (by omega)] at c291
          refine o_iload C dL_isMessage_307 rfl ?_
          refine o_if_ne (tgt := 321) C dL_isMessage_309 (by decide) (fun c309 => False.elim (by rw [nz_eq (by omega)] at c309; omega)) (fun c309 => ?_)
          refine o_iload C dL_isMessage_312 rfl ?_
          refine o_if_ne (tgt := 321) C dL_isMessage_314 (by decide) (fun c314 => False.elim (by rw [nz_eq (by omega)] at c314; omega)) (fun c314 => ?_)
          refine o_iconst (v := nI 1) C dL_isMessage_317 (by decide) ?_
          refine o_goto (tgt := 322) C dL_isMessage_318 (by decide) ?_
          refine o_zret C Rt dL_isMessage_322 (by show _ ≤ (90 : Nat); omega) (by show _ ≤ (540 : Nat); omega) (by decide) ?_
          exact ⟨rfl, rfl⟩
        · rw [nI_eq (by omega) (by omega)] at c291
          refine o_iload C dL_isMessage_294 rfl ?_
          refine o_iload C dL_isMessage_296 rfl ?_
          refine o_iload C dL_isMessage_298 rfl ?_
          refine o_isub C dL_isMessage_300 ?_
          rw [pk_sub (by omega)]
          refine o_icmp_gt (tgt := 321) C dL_isMessage_301 (by decide) (fun c301 => False.elim (by rw [nI_ltI (by omega) (by omega)] at c301; omega)) (fun c301 => ?_)
          refine o_goto (tgt := 317) C dL_isMessage_304 (by decide) ?_
          refine o_iconst (v := nI 1) C dL_isMessage_317 (by decide) ?_
          refine o_goto (tgt := 322) C dL_isMessage_318 (by decide) ?_
          refine o_zret C Rt dL_isMessage_322 (by show _ ≤ (90 : Nat); omega) (by show _ ≤ (540 : Nat); omega) (by decide) ?_
          exact ⟨rfl, rfl⟩
    · rw [nz_eq (by omega)] at c188
      refine o_iload C dL_isMessage_191 rfl ?_
      refine o_goto (tgt := 200) C dL_isMessage_193 (by decide) ?_
      refine o_icmp_ne (tgt := 259) C dL_isMessage_200 (by decide) (fun c200 => False.elim (by rw [nI_eq (by omega) (by omega)] at c200; omega)) (fun c200 => ?_)
      refine o_iload_n C dL_isMessage_203 rfl ?_
      refine o_if_ne (tgt := 224) C dL_isMessage_204 (by decide) (fun c204 => ?_) (fun c204 => ?_)
      · rw [nz_eq (by omega)] at c204
        refine o_iload_n C dL_isMessage_224 rfl ?_
        refine o_iconst (v := nI 1) C dL_isMessage_225 (by decide) ?_
        refine o_icmp_ne (tgt := 241) C dL_isMessage_226 (by decide) (fun c226 => ?_) (fun c226 => ?_)
        · rw [nI_eq (by omega) (by omega)] at c226
          refine o_iload C dL_isMessage_241 rfl ?_
          refine o_if_le (tgt := 259) C dL_isMessage_243 (by decide) (fun c243 => False.elim (by rw [nz_le (by omega)] at c243; omega)) (fun c243 => ?_)
          refine o_iload C dL_isMessage_246 rfl ?_
          refine o_iload C dL_isMessage_248 rfl ?_
          refine o_iconst (v := nI 1) C dL_isMessage_250 (by decide) ?_
          refine o_isub C dL_isMessage_251 ?_
          rw [pk_sub (by omega)]
          refine o_icmp_ge (tgt := 259) C dL_isMessage_252 (by decide) (fun c252 => False.elim (by rw [nI_leI (by omega) (by omega)] at c252; omega)) (fun c252 => ?_)
          refine o_iconst (v := nI 1) C dL_isMessage_255 (by decide) ?_
          refine o_goto (tgt := 260) C dL_isMessage_256 (by decide) ?_
          refine o_istore (L' := [_, _, _, _, _, _, _, _, _, _, _, _]) C dL_isMessage_260 (by decide) rfl ?_
          refine o_iload C dL_isMessage_262 rfl ?_
          refine o_if_eq (tgt := 321) C dL_isMessage_264 (by decide) (fun c264 => False.elim (by rw [nz_eq (by omega)] at c264; omega)) (fun c264 => ?_)
          refine o_iload C dL_isMessage_267 rfl ?_
          refine o_if_lt (tgt := 321) C dL_isMessage_269 (by decide) (fun c269 => False.elim (by rw [nz_lt (by omega)] at c269; omega)) (fun c269 => ?_)
          refine o_iload C dL_isMessage_272 rfl ?_
          refine o_if_lt (tgt := 321) C dL_isMessage_274 (by decide) (fun c274 => False.elim (by rw [nz_lt (by omega)] at c274; omega)) (fun c274 => ?_)
          refine o_iload C dL_isMessage_277 rfl ?_
          refine o_if_lt (tgt := 321) C dL_isMessage_279 (by decide) (fun c279 => False.elim (by rw [nz_lt (by omega)] at c279; omega)) (fun c279 => ?_)
          refine o_iload C dL_isMessage_282 rfl ?_
          refine o_iload C dL_isMessage_284 rfl ?_
          refine o_icmp_gt (tgt := 321) C dL_isMessage_286 (by decide) (fun c286 => False.elim (by rw [nI_ltI (by omega) (by omega)] at c286; omega)) (fun c286 => ?_)
          refine o_iload_n C dL_isMessage_289 rfl ?_
          refine o_iconst (v := nI 2) C dL_isMessage_290 (by decide) ?_
          refine o_icmp_ne (tgt := 307) C dL_isMessage_291 (by decide) (fun c291 => ?_) (fun c291 => ?_)
          · rw [nI_eq (by omega) (by omega)] at c291
            refine o_iload C dL_isMessage_307 rfl ?_
            refine o_if_ne (tgt := 321) C dL_isMessage_309 (by decide) (fun c309 => False.elim (by rw [nz_eq (by omega)] at c309; omega)) (fun c309 => ?_)
            refine o_iload C dL_isMessage_312 rfl ?_
            refine o_if_ne (tgt := 321) C dL_isMessage_314 (by decide) (fun c314 => False.elim (by rw [nz_eq (by omega)] at c314; omega)) (fun c314 => ?_)
            refine o_iconst (v := nI 1) C dL_isMessage_317 (by decide) ?_
            refine o_goto (tgt := 322) C dL_isMessage_318 (by decide) ?_
            refine o_zret C Rt dL_isMessage_322 (by show _ ≤ (90 : Nat); omega) (by show _ ≤ (540 : Nat); omega) (by decide) ?_
            exact ⟨rfl, rfl⟩
          · rw [nI_eq (by omega) (by omega)] at c291
            refine o_iload C dL_isMessage_294 rfl ?_
            refine o_iload C dL_isMessage_296 rfl ?_
            refine o_iload C dL_isMessage_298 rfl ?_
            refine o_isub C dL_isMessage_300 ?_
            rw [pk_sub (by omega)]
            refine o_icmp_gt (tgt := 321) C dL_isMessage_301 (by decide) (fun c301 => False.elim (by rw [nI_ltI (by omega) (by omega)] at c301; omega)) (fun c301 => ?_)
            refine o_goto (tgt := 317) C dL_isMessage_304 (by decide) ?_
            refine o_iconst (v := nI 1) C dL_isMessage_317 (by decide) ?_
            refine o_goto (tgt := 322) C dL_isMessage_318 (by decide) ?_
            refine o_zret C Rt dL_isMessage_322 (by show _ ≤ (90 : Nat); omega) (by show _ ≤ (540 : Nat); omega) (by decide) ?_
            exact ⟨rfl, rfl⟩
        · rw [nI_eq (by omega) (by omega)] at c226
          refine o_iload C dL_isMessage_229 rfl ?_
          refine o_iload C dL_isMessage_231 rfl ?_
          refine o_iconst (v := nI 1) C dL_isMessage_233 (by decide) ?_
          refine o_isub C dL_isMessage_234 ?_
          rw [pk_sub (by omega)]
          refine o_icmp_ne (tgt := 259) C dL_isMessage_235 (by decide) (fun c235 => False.elim (by rw [nI_eq (by omega) (by omega)] at c235; omega)) (fun c235 => ?_)
          refine o_goto (tgt := 255) C dL_isMessage_238 (by decide) ?_
          refine o_iconst (v := nI 1) C dL_isMessage_255 (by decide) ?_
          refine o_goto (tgt := 260) C dL_isMessage_256 (by decide) ?_
          refine o_istore (L' := [_, _, _, _, _, _, _, _, _, _, _, _]) C dL_isMessage_260 (by decide) rfl ?_
          refine o_iload C dL_isMessage_262 rfl ?_
          refine o_if_eq (tgt := 321) C dL_isMessage_264 (by decide) (fun c264 => False.elim (by rw [nz_eq (by omega)] at c264; omega)) (fun c264 => ?_)
          refine o_iload C dL_isMessage_267 rfl ?_
          refine o_if_lt (tgt := 321) C dL_isMessage_269 (by decide) (fun c269 => False.elim (by rw [nz_lt (by omega)] at c269; omega)) (fun c269 => ?_)
          refine o_iload C dL_isMessage_272 rfl ?_
          refine o_if_lt (tgt := 321) C dL_isMessage_274 (by decide) (fun c274 => False.elim (by rw [nz_lt (by omega)] at c274; omega)) (fun c274 => ?_)
          refine o_iload C dL_isMessage_277 rfl ?_
          refine o_if_lt (tgt := 321) C dL_isMessage_279 (by decide) (fun c279 => False.elim (by rw [nz_lt (by omega)] at c279; omega)) (fun c279 => ?_)
          refine o_iload C dL_isMessage_282 rfl ?_
          refine o_iload C dL_isMessage_284 rfl ?_
          refine o_icmp_gt (tgt := 321) C dL_isMessage_286 (by decide) (fun c286 => False.elim (by rw [nI_ltI (by omega) (by omega)] at c286; omega)) (fun c286 => ?_)
          refine o_iload_n C dL_isMessage_289 rfl ?_
          refine o_iconst (v := nI 2) C dL_isMessage_290 (by decide) ?_
          refine o_icmp_ne (tgt := 307) C dL_isMessage_291 (by decide) (fun c291 => ?_) (fun c291 => ?_)
          · rw [nI_eq (by omega) (by omega)] at c291
            refine o_iload C dL_isMessage_307 rfl ?_
            refine o_if_ne (tgt := 321) C dL_isMessage_309 (by decide) (fun c309 => False.elim (by rw [nz_eq (by omega)] at c309; omega)) (fun c309 => ?_)
            refine o_iload C dL_isMessage_312 rfl ?_
            refine o_if_ne (tgt := 321) C dL_isMessage_314 (by decide) (fun c314 => False.elim (by rw [nz_eq (by omega)] at c314; omega)) (fun c314 => ?_)
            refine o_iconst (v := nI 1) C dL_isMessage_317 (by decide) ?_
            refine o_goto (tgt := 322) C dL_isMessage_318 (by decide) ?_
            refine o_zret C Rt dL_isMessage_322 (by show _ ≤ (90 : Nat); omega) (by show _ ≤ (540 : Nat); omega) (by decide) ?_
            exact ⟨rfl, rfl⟩
          · rw [nI_eq (by omega) (by omega)] at c291
            refine o_iload C dL_isMessage_294 rfl ?_
            refine o_iload C dL_isMessage_296 rfl ?_
            refine o_iload C dL_isMessage_298 rfl ?_
            refine o_isub C dL_isMessage_300 ?_
            rw [pk_sub (by omega)]
            refine o_icmp_gt (tgt := 321) C dL_isMessage_301 (by decide) (fun c301 => False.elim (by rw [nI_ltI (by omega) (by omega)] at c301; omega)) (fun c301 => ?_)
            refine o_goto (tgt := 317) C dL_isMessage_304 (by decide) ?_
            refine o_iconst (v := nI 1) C dL_isMessage_317 (by decide) ?_
            refine o_goto (tgt := 322) C dL_isMessage_318 (by decide) ?_
            refine o_zret C Rt dL_isMessage_322 (by show _ ≤ (90 : Nat); omega) (by show _ ≤ (540 : Nat); omega) (by decide) ?_
            exact ⟨rfl, rfl⟩
      · rw [nz_eq (by omega)] at c204
        refine o_iload C dL_isMessage_207 rfl ?_
        refine o_if_lt (tgt := 259) C dL_isMessage_209 (by decide) (fun c209 => False.elim (by rw [nz_lt (by omega)] at c209; omega)) (fun c209 => ?_)
        refine o_iload C dL_isMessage_212 rfl ?_
        refine o_iload C dL_isMessage_214 rfl ?_
        refine o_iconst (v := nI 1) C dL_isMessage_216 (by decide) ?_
        refine o_isub C dL_isMessage_217 ?_
        rw [pk_sub (by omega)]
        refine o_icmp_ge (tgt := 259) C dL_isMessage_218 (by decide) (fun c218 => False.elim (by rw [nI_leI (by omega) (by omega)] at c218; omega)) (fun c218 => ?_)
        refine o_goto (tgt := 255) C dL_isMessage_221 (by decide) ?_
        refine o_iconst (v := nI 1) C dL_isMessage_255 (by decide) ?_
        refine o_goto (tgt := 260) C dL_isMessage_256 (by decide) ?_
        refine o_istore (L' := [_, _, _, _, _, _, _, _, _, _, _, _]) C dL_isMessage_260 (by decide) rfl ?_
        refine o_iload C dL_isMessage_262 rfl ?_
        refine o_if_eq (tgt := 321) C dL_isMessage_264 (by decide) (fun c264 => False.elim (by rw [nz_eq (by omega)] at c264; omega)) (fun c264 => ?_)
        refine o_iload C dL_isMessage_267 rfl ?_
        refine o_if_lt (tgt := 321) C dL_isMessage_269 (by decide) (fun c269 => False.elim (by rw [nz_lt (by omega)] at c269; omega)) (fun c269 => ?_)
        refine o_iload C dL_isMessage_272 rfl ?_
        refine o_if_lt (tgt := 321) C dL_isMessage_274 (by decide) (fun c274 => False.elim (by rw [nz_lt (by omega)] at c274; omega)) (fun c274 => ?_)
        refine o_iload C dL_isMessage_277 rfl ?_
        refine o_if_lt (tgt := 321) C dL_isMessage_279 (by decide) (fun c279 => False.elim (by rw [nz_lt (by omega)] at c279; omega)) (fun c279 => ?_)
        refine o_iload C dL_isMessage_282 rfl ?_
        refine o_iload C dL_isMessage_284 rfl ?_
        refine o_icmp_gt (tgt := 321) C dL_isMessage_286 (by decide) (fun c286 => False.elim (by rw [nI_ltI (by omega) (by omega)] at c286; omega)) (fun c286 => ?_)
        refine o_iload_n C dL_isMessage_289 rfl ?_
        refine o_iconst (v := nI 2) C dL_isMessage_290 (by decide) ?_
        refine o_icmp_ne (tgt := 307) C dL_isMessage_291 (by decide) (fun c291 => ?_) (fun c291 => ?_)
        · rw [nI_eq (by omega) (by omega)] at c291
          refine o_iload C dL_isMessage_307 rfl ?_
          refine o_if_ne (tgt := 321) C dL_isMessage_309 (by decide) (fun c309 => False.elim (by rw [nz_eq (by omega)] at c309; omega)) (fun c309 => ?_)
          refine o_iload C dL_isMessage_312 rfl ?_
          refine o_if_ne (tgt := 321) C dL_isMessage_314 (by decide) (fun c314 => False.elim (by rw [nz_eq (by omega)] at c314; omega)) (fun c314 => ?_)
          refine o_iconst (v := nI 1) C dL_isMessage_317 (by decide) ?_
          refine o_goto (tgt := 322) C dL_isMessage_318 (by decide) ?_
          refine o_zret C Rt dL_isMessage_322 (by show _ ≤ (90 : Nat); omega) (by show _ ≤ (540 : Nat); omega) (by decide) ?_
          exact ⟨rfl, rfl⟩
        · rw [nI_eq (by omega) (by omega)] at c291
          refine o_iload C dL_isMessage_294 rfl ?_
          refine o_iload C dL_isMessage_296 rfl ?_
          refine o_iload C dL_isMessage_298 rfl ?_
          refine o_isub C dL_isMessage_300 ?_
          rw [pk_sub (by omega)]
          refine o_icmp_gt (tgt := 321) C dL_isMessage_301 (by decide) (fun c301 => False.elim (by rw [nI_ltI (by omega) (by omega)] at c301; omega)) (fun c301 => ?_)
          refine o_goto (tgt := 317) C dL_isMessage_304 (by decide) ?_
          refine o_iconst (v := nI 1) C dL_isMessage_317 (by decide) ?_
          refine o_goto (tgt := 322) C dL_isMessage_318 (by decide) ?_
          refine o_zret C Rt dL_isMessage_322 (by show _ ≤ (90 : Nat); omega) (by show _ ≤ (540 : Nat); omega) (by decide) ?_
          exact ⟨rfl, rfl⟩
  have loop : ∀ (r : Nat) (q : Nat), q + r = hh + 1 → ∀ th : Int32, TH th (fun r => ix (τ 8 k r)) q → V X (2 + 6 * q) (12 + 36 * q) M 32 [some (.ref (ad 0 0)), some (.int (nI (k))), some (.ref ac), some (.int (nI (hv))), some (.int (th)), some (.int (nI (q))), some (.int (atV pl q)), some (.int (nI (1))), none, none, none, none] [] := by
    intro r
    induction r with
    | zero =>
      intro q hqr th hth
      refine o_aload_n C dL_isMessage_32 rfl ?_
      refine o_iload_n C dL_isMessage_33 rfl ?_
      refine o_iload C dL_isMessage_34 rfl ?_
      refine o_callV C mt_X5_way wd_647 wd_648 wd_646 cl_X5 hR.o0 (q_way hl hR hm60 (i := k) (q := q) (by omega) (by omega) (w := (-1)) (by rw [a3]; exact on_out (by omega) (by omega))) ⟨lb rfl, lb rfl, by show _ ≤ (90 : Nat); omega, by show _ ≤ (540 : Nat); omega⟩ rfl (lb rfl) dL_isMessage_36 (fun _ _ h => h.elim) (fun v M2 hv => ?_)
      obtain ⟨rfl, rfl⟩ := hv
      refine o_iconst (v := (-1)) C dL_isMessage_39 (by decide) ?_
      refine o_icmp_eq (tgt := 129) C dL_isMessage_40 (by decide) (fun c40 => ?_) (fun c40 => False.elim (c40 rfl))
      have e : atV pl (hh + 1) = nI pl := if_pos (by omega)
      have hq : q = hh + 1 := by omega
      subst hq
      rw [e]
      exact K129 th
    | succ r ih =>
      intro q hqr th hth
      have hx := (a12 q (by omega)).1
      have hseen : ¬ ∃ r, r < q ∧ ix (τ 8 k r) = ix (τ 8 k q) := fun ⟨r, r1, r2⟩ => a13 r q r1 (by omega) r2
      have hinj : ix (τ 8 k q) = ix (τ 8 k pl) ↔ q = pl := ⟨fun z => by
        rcases Nat.lt_trichotomy q pl with d | d | d
        · exact absurd z (a13 q pl d a0)
        · exact d
        · exact absurd z.symm (a13 pl q d (by omega)), fun z => by rw [z]⟩
      have hxp := (a12 pl a0).1
      refine o_aload_n C dL_isMessage_32 rfl ?_
      refine o_iload_n C dL_isMessage_33 rfl ?_
      refine o_iload C dL_isMessage_34 rfl ?_
      refine o_callV C mt_X5_way wd_647 wd_648 wd_646 cl_X5 hR.o0 (q_way hl hR hm60 (i := k) (q := q) (by omega) (by omega) (w := nI (ix (τ 8 k (q)))) (by rw [a3, on_in (by omega) (by omega)]; exact (a12 _ (by omega)).2)) ⟨lb rfl, lb rfl, by show _ ≤ (90 : Nat); omega, by show _ ≤ (540 : Nat); omega⟩ rfl (lb rfl) dL_isMessage_36 (fun _ _ h => h.elim) (fun v M2 hv => ?_)
      obtain ⟨rfl, rfl⟩ := hv
      refine o_iconst (v := (-1)) C dL_isMessage_39 (by decide) ?_
      refine o_icmp_eq (tgt := 129) C dL_isMessage_40 (by decide) (fun c40 => False.elim (ne_m1 (by omega) c40)) (fun c40 => ?_)
      refine o_iload C dL_isMessage_43 rfl ?_
      refine o_if_eq (tgt := 129) C dL_isMessage_45 (by decide) (fun c45 => False.elim (by revert c45; decide)) (fun c45 => ?_)
      refine o_iload C dL_isMessage_48 rfl ?_
      refine o_bipush (v := nI 13) C dL_isMessage_50 (by decide) ?_
      refine o_icmp_ge (tgt := 129) C dL_isMessage_52 (by decide) (fun c52 => False.elim (by rw [nI_leI (by omega) (by omega)] at c52; omega)) (fun c52 => ?_)
      refine o_aload_n C dL_isMessage_55 rfl ?_
      refine o_iload_n C dL_isMessage_56 rfl ?_
      refine o_iload C dL_isMessage_57 rfl ?_
      refine o_callV C mt_X5_way wd_647 wd_648 wd_646 cl_X5 hR.o0 (q_way hl hR hm60 (i := k) (q := q) (by omega) (by omega) (w := nI (ix (τ 8 k (q)))) (by rw [a3, on_in (by omega) (by omega)]; exact (a12 _ (by omega)).2)) ⟨lb rfl, lb rfl, by show _ ≤ (90 : Nat); omega, by show _ ≤ (540 : Nat); omega⟩ rfl (lb rfl) dL_isMessage_59 (fun _ _ h => h.elim) (fun v M2 hv => ?_)
      obtain ⟨rfl, rfl⟩ := hv
      refine o_istore (L' := [_, _, _, _, _, _, _, _, _, _, _, _]) C dL_isMessage_62 (by decide) rfl ?_
      refine o_iload C dL_isMessage_64 rfl ?_
      refine o_if_lt (tgt := 91) C dL_isMessage_66 (by decide) (fun c66 => False.elim (by rw [nz_lt (by omega)] at c66; omega)) (fun c66 => ?_)
      refine o_iload C dL_isMessage_69 rfl ?_
      refine o_aload_n C dL_isMessage_71 rfl ?_
      refine o_iconst (v := nI 0) C dL_isMessage_72 (by decide) ?_
      refine o_iald C hW.mc (vp_in_nI (by omega) (by decide)) dL_isMessage_73 ?_
      rw [nI_clamp (by omega)]
      rw [show cF m t mo 0 = nI 7 from rfl]
      refine o_icmp_ge (tgt := 91) C dL_isMessage_74 (by decide) (fun c74 => False.elim (by rw [nI_leI (by omega) (by omega)] at c74; omega)) (fun c74 => ?_)
      refine o_iload C dL_isMessage_77 rfl ?_
      refine o_iload C dL_isMessage_79 rfl ?_
      refine o_ishr C dL_isMessage_81 ?_
      refine o_iconst (v := nI 1) C dL_isMessage_82 (by decide) ?_
      refine o_iand C dL_isMessage_83 ?_
      refine o_if_ne (tgt := 91) C dL_isMessage_84 (by decide) (fun c84 => False.elim (c84 (by rw [lnk01, if_neg (fun z => hseen ((hth _ (by omega)).mp z))]; rfl))) (fun c84 => ?_)
      refine o_iconst (v := nI 1) C dL_isMessage_87 (by decide) ?_
      refine o_goto (tgt := 92) C dL_isMessage_88 (by decide) ?_
      refine o_istore (L' := [_, _, _, _, _, _, _, _, _, _, _, _]) C dL_isMessage_92 (by decide) rfl ?_
      refine o_iload C dL_isMessage_94 rfl ?_
      refine o_iconst (v := nI 1) C dL_isMessage_96 (by decide) ?_
      refine o_iload C dL_isMessage_97 rfl ?_
      refine o_ishl C dL_isMessage_99 ?_
      refine o_ior C dL_isMessage_100 ?_
      refine o_istore (L' := [_, _, _, _, _, _, _, _, _, _, _, _]) C dL_isMessage_101 (by decide) rfl ?_
      refine o_iload C dL_isMessage_103 rfl ?_
      refine o_aload_n C dL_isMessage_105 rfl ?_
      refine o_iload_n C dL_isMessage_106 rfl ?_
      refine o_iconst (v := nI 1) C dL_isMessage_107 (by decide) ?_
      refine o_callV C mt_X5_message wd_634 wd_635 wd_633 cl_X5 hR.o0 (q_msg1 hl hR hm60 (i := k) (by omega) (w := nI (ix (τ 8 k pl))) e1) ⟨lb rfl, lb rfl, by show _ ≤ (90 : Nat); omega, by show _ ≤ (540 : Nat); omega⟩ rfl (lb rfl) dL_isMessage_108 (fun _ _ h => h.elim) (fun v M2 hv => ?_)
      obtain ⟨rfl, rfl⟩ := hv
      refine o_icmp_ne (tgt := 119) C dL_isMessage_111 (by decide) (fun c111 => ?_) (fun c111 => ?_)
      · rw [nI_eq (by omega) (by omega)] at c111
        refine o_iload C dL_isMessage_119 rfl ?_
        refine o_istore (L' := [_, _, _, _, _, _, _, _, _, _, _, _]) C dL_isMessage_121 (by decide) rfl ?_
        refine o_iinc (L' := [_, _, _, _, _, _, _, _, _, _, _, _]) (y := nI (q + 1)) C dL_isMessage_123 rfl (by rw [show Int32.ofInt 1 = nI 1 from by decide]; exact nI_add _ _) (by decide) rfl ?_
        refine o_goto (tgt := 32) C dL_isMessage_126 (by decide) ?_
        have hqp : ¬ q = pl := fun z => c111 (hinj.mpr z)
        have ea : atV pl q = atV pl (q + 1) := by
          unfold atV
          by_cases d : pl < q
          · rw [if_pos d, if_pos (by omega)]
          · rw [if_neg d, if_neg (by omega)]
        rw [ea]
        refine V.hide 8 (V.widen (k' := 2 + 6 * (q + 1)) (n' := 12 + 36 * (q + 1)) (by omega) (by omega) ?_)
        exact ih (q + 1) (by omega) _ (hth.next (by have := (a12 q (by omega)).1; omega))
      · rw [nI_eq (by omega) (by omega)] at c111
        refine o_iload C dL_isMessage_114 rfl ?_
        refine o_goto (tgt := 121) C dL_isMessage_116 (by decide) ?_
        refine o_istore (L' := [_, _, _, _, _, _, _, _, _, _, _, _]) C dL_isMessage_121 (by decide) rfl ?_
        refine o_iinc (L' := [_, _, _, _, _, _, _, _, _, _, _, _]) (y := nI (q + 1)) C dL_isMessage_123 rfl (by rw [show Int32.ofInt 1 = nI 1 from by decide]; exact nI_add _ _) (by decide) rfl ?_
        refine o_goto (tgt := 32) C dL_isMessage_126 (by decide) ?_
        have hqp : q = pl := hinj.mp c111
        have ea : nI q = atV pl (q + 1) := by unfold atV; rw [if_pos (by omega), hqp]
        rw [ea]
        refine V.hide 8 (V.widen (k' := 2 + 6 * (q + 1)) (n' := 12 + 36 * (q + 1)) (by omega) (by omega) ?_)
        exact ih (q + 1) (by omega) _ (hth.next (by have := (a12 q (by omega)).1; omega))
  refine o_aload_n C dL_isMessage_0 rfl ?_
  refine o_iload_n C dL_isMessage_1 rfl ?_
  refine o_iconst (v := nI 0) C dL_isMessage_2 (by decide) ?_
  refine o_callV C mt_X5_message wd_634 wd_635 wd_633 cl_X5 hR.o0 (q_msg0 hl hR hm60 (i := k) (by omega) (w := nI (hv)) e0) ⟨lb rfl, lb rfl, by show _ ≤ (90 : Nat); omega, by show _ ≤ (540 : Nat); omega⟩ rfl (lb rfl) dL_isMessage_3 (fun _ _ h => h.elim) (fun v M2 hv => ?_)
  obtain ⟨rfl, rfl⟩ := hv
  refine o_istore_n (L' := [_, _, _, _, _, _, _, _, _, _, _, _]) C dL_isMessage_6 (by decide) rfl ?_
  refine o_iconst (v := nI 0) C dL_isMessage_7 (by decide) ?_
  refine o_istore (L' := [_, _, _, _, _, _, _, _, _, _, _, _]) C dL_isMessage_8 (by decide) rfl ?_
  refine o_iconst (v := nI 0) C dL_isMessage_10 (by decide) ?_
  refine o_istore (L' := [_, _, _, _, _, _, _, _, _, _, _, _]) C dL_isMessage_11 (by decide) rfl ?_
  refine o_iconst (v := (-1)) C dL_isMessage_13 (by decide) ?_
  refine o_istore (L' := [_, _, _, _, _, _, _, _, _, _, _, _]) C dL_isMessage_14 (by decide) rfl ?_
  refine o_iload_n C dL_isMessage_16 rfl ?_
  refine o_if_lt (tgt := 29) C dL_isMessage_17 (by decide) (fun c17 => False.elim (by rw [nz_lt (by omega)] at c17; omega)) (fun c17 => ?_)
  refine o_iload_n C dL_isMessage_20 rfl ?_
  refine o_iconst (v := nI 3) C dL_isMessage_21 (by decide) ?_
  refine o_icmp_ge (tgt := 29) C dL_isMessage_22 (by decide) (fun c22 => False.elim (by rw [nI_leI (by omega) (by omega)] at c22; omega)) (fun c22 => ?_)
  refine o_iconst (v := nI 1) C dL_isMessage_25 (by decide) ?_
  refine o_goto (tgt := 30) C dL_isMessage_26 (by decide) ?_
  refine o_istore (L' := [_, _, _, _, _, _, _, _, _, _, _, _]) C dL_isMessage_30 (by decide) rfl ?_
  have e := loop (hh + 1) 0 (by omega) 0 (fun b hb => ⟨fun z => (by rw [lnkB_0 hb] at z; cases z), fun ⟨r, r1, _⟩ => by omega⟩)
  exact e

