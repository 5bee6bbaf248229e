def ad0 (G : GT) (A : List Nat) (k _i : Nat) : Nat := match k with
  | 0 => A.getD 0 0
  | 1 => A.getD 1 0
  | 2 => gT G
  | 4 => A.getD 2 0
  | 5 => gT G
  | 10 => A.getD 3 0
  | 11 => A.getD 4 0
  | 12 => A.getD 5 0
  | 13 => A.getD 6 0
  | 14 => A.getD 7 0
  | 15 => A.getD 8 0
  | 16 => A.getD 9 0
  | 17 => A.getD 10 0
  | 18 => A.getD 11 0
  | _ => 0
def pos0 (k : Nat) : Nat := match k with
  | 0 => 0
  | 1 => 1
  | 4 => 2
  | 10 => 3
  | 11 => 4
  | 12 => 5
  | 13 => 6
  | 14 => 7
  | 15 => 8
  | 16 => 9
  | 17 => 10
  | _ => 11
def k0s : List Nat := [0, 1, 4, 10, 11, 12, 13, 14, 15, 16, 17, 18]
theorem ex00 {k i : Nat} (h : ex 0 0 k i) : i = 0 ∧ k ∈ k0s := by
  unfold ex at h
  unfold k0s
  split at h <;> simp_all
theorem ad0_pos {G : GT} {A : List Nat} : ∀ k ∈ k0s, ad0 G A k 0 = A.getD (pos0 k) 0 := by
  intro k hk
  simp only [k0s, List.mem_cons, List.not_mem_nil, or_false] at hk
  rcases hk with rfl | rfl | rfl | rfl | rfl | rfl | rfl | rfl | rfl | rfl | rfl | rfl <;> rfl
theorem pos0_lt : ∀ k ∈ k0s, pos0 k < 12 := by decide
theorem pos0_inj : ∀ k ∈ k0s, ∀ k' ∈ k0s, pos0 k = pos0 k' → k = k' := by decide
theorem nodup_getD : ∀ (l : List Nat), l.Nodup → ∀ i j, i < l.length → j < l.length → l.getD i 0 = l.getD j 0 → i = j
  | [], _, i, _, hi, _, _ => absurd hi (Nat.not_lt_zero _)
  | x :: l, h, i, j, hi, hj, e => by
    have h2 := List.nodup_cons.mp h
    have mem : ∀ i, i < l.length → l.getD i 0 ∈ l := fun i hi => by
      rw [List.getD_eq_getElem?_getD, List.getElem?_eq_getElem hi]
      exact List.getElem_mem hi
    cases i with
    | zero =>
      cases j with
      | zero => rfl
      | succ j =>
        have e2 : x = l.getD j 0 := by simpa using e
        exact absurd (e2 ▸ mem j (by simpa using hj)) h2.1
    | succ i =>
      cases j with
      | zero =>
        have e2 : l.getD i 0 = x := by simpa using e
        exact absurd (e2 ▸ mem i (by simpa using hi)) h2.1
      | succ j =>
        have e2 : l.getD i 0 = l.getD j 0 := by simpa using e
        rw [nodup_getD l h2.2 i j (by simpa using hi) (by simpa using hj) e2]
def tau0 : T3 := fun k _ j => if k = 16 then (if j < 11 then -1 else 0) else 0
theorem rep_new {G : GT} {N M : Mm} {A : List Nat} (hA : A.Nodup) (hl : A.length = 12) (h : ∀ k ∈ k0s, M (ad0 G A k 0) = some (cntr G (ad0 G A) 0 0 k 0 (tau0 k 0))) (hN : ∀ q e, N q = some e → M q = some e ∧ ∀ k ∈ k0s, ad0 G A k 0 ≠ q) : Rep G (ad0 G A) 0 0 tau0 N M := by
  refine ⟨fun k i hx => ?_, fun k i k' i' hx hx' he => ?_, ⟨fun _ => rfl, fun h => absurd h (by decide), (by decide : (0 : Nat) ≤ 400)⟩, ⟨fun _ => rfl, fun h => absurd h (by decide), (by decide : (0 : Nat) ≤ 400)⟩, fun k i => ?_, fun q e hq => ⟨(hN q e hq).1, fun k i hx => ?_⟩⟩
  · obtain ⟨rfl, hk⟩ := ex00 hx
    exact h k hk
  · obtain ⟨rfl, hk⟩ := ex00 hx
    obtain ⟨rfl, hk'⟩ := ex00 hx'
    rw [ad0_pos k hk, ad0_pos k' hk'] at he
    exact ⟨pos0_inj k hk k' hk' (nodup_getD A hA _ _ (by rw [hl]; exact pos0_lt k hk) (by rw [hl]; exact pos0_lt k' hk') he), rfl⟩
  · intro hk j
    refine Or.inl ?_
    unfold tau0
    rw [if_neg (by omega)]
  · obtain ⟨rfl, hk⟩ := ex00 hx
    exact (hN q e hq).2 k hk
set_option maxRecDepth 100000 in
set_option maxHeartbeats 4000000 in
theorem c_X5_init {l : Launch} {G : GT} (hl : l.stackTraces = false) {N : Mm} {a : Nat} (hN : N a = none) : Con l G yX5_init (.code yX5_init cX5_init 1 none) 4 80 [.ref a] (mst N a (.inr (6, [.null, .null, .null, .null, .int 0]))) (fun v M' => v = none ∧ ∃ ad : Nat → Nat → Nat, ad 0 0 = a ∧ Rep G ad 0 0 tau0 N M') (noX) 11 84 := by
  refine con_of hl (by decide +kernel) (acc rfl ac0) (lb rfl) ?_
  intro X hlX hGX C Rt hnx hnm
  subst hlX hGX
  show V X 0 0 (mst N a (.inr (6, [.null, .null, .null, .null, .int 0]))) 0 [some (.ref a)] []
  have h0 : (mst N a (.inr (6, [.null, .null, .null, .null, .int 0]))) a = some (.inr (6, [.null, .null, .null, .null, .int 0])) := mst_s
  have nfa : ∀ q e, N q = some e → q ≠ a := fun q e h => ne_new h hN
  have hf0 : ∀ q e, N q = some e → (mst N a (.inr (6, [.null, .null, .null, .null, .int 0]))) q = some e := fun q e h => (mst_n (nfa q e h)).trans h
  refine o_aload_n C dX5_init_0 rfl ?_
  refine o_obj C wd_75 wd_76 wd_77 ⟨lb rfl, lb rfl⟩ dX5_init_1 ?_
  refine o_aload_n C dX5_init_4 rfl ?_
  refine o_new C cl_Jx4a65c wd_78 wd_79 wd_49 df_Jx4a65c (by decide) (by decide) dX5_init_5 (fun q5 hn5 hb5 => ?_)
  refine o_dup C dX5_init_8 rfl ?_
  refine o_callI C mt_Jx4a65c_init_da8c8 rfl wd_81 wd_80 (c_ArrayList_init hl mst_s) ⟨lb rfl, lb rfl, lb rfl, lb rfl⟩ rfl (lb rfl) dX5_init_9 (fun _ _ h => h.elim) (fun v M2 hv => ?_)
  obtain ⟨rfl, rfl⟩ := hv
  have ne_a_q5 : a ≠ q5 := ne_new h0 hn5
  have nf_q5 : ∀ q e, N q = some e → q ≠ q5 := fun q e h => ne_new (hf0 q e h) hn5
  refine o_putF (fs' := [_, _, _, _, _]) C hnm cl_X5 ((mst_n ne_a_q5).trans ((mst_n ne_a_q5).trans (h0))) 0 (by decide) wd_157 rfl rfl rfl rfl rfl (lb rfl) rfl rfl dX5_init_12 ?_
  have hf1 : ∀ q e, N q = some e → (mst (mst (mst (mst N a (.inr (6, [.null, .null, .null, .null, .int 0]))) q5 (.inr (0, [.int 0, .null, .int 0]))) q5 (eList 0 (.ref (gT (cG X))) 0)) a (.inr (6, [.ref q5, .null, .null, .null, .int 0]))) q = some e := fun q e h => by
    rw [mst_n (nfa q e h), mst_n (nf_q5 q e h), mst_n (nf_q5 q e h)]
    exact hf0 q e h
  have ka1 : (mst (mst (mst (mst N a (.inr (6, [.null, .null, .null, .null, .int 0]))) q5 (.inr (0, [.int 0, .null, .int 0]))) q5 (eList 0 (.ref (gT (cG X))) 0)) a (.inr (6, [.ref q5, .null, .null, .null, .int 0]))) a = some (.inr (6, [.ref q5, .null, .null, .null, .int 0])) := by
    rw [mst_s]
  have kq51 : (mst (mst (mst (mst N a (.inr (6, [.null, .null, .null, .null, .int 0]))) q5 (.inr (0, [.int 0, .null, .int 0]))) q5 (eList 0 (.ref (gT (cG X))) 0)) a (.inr (6, [.ref q5, .null, .null, .null, .int 0]))) q5 = some (eList 0 (.ref (gT (cG X))) 0) := by
    rw [mst_n (Ne.symm ne_a_q5), mst_s]
  generalize (mst (mst (mst (mst N a (.inr (6, [.null, .null, .null, .null, .int 0]))) q5 (.inr (0, [.int 0, .null, .int 0]))) q5 (eList 0 (.ref (gT (cG X))) 0)) a (.inr (6, [.ref q5, .null, .null, .null, .int 0]))) = M1 at *
  refine o_aload_n C dX5_init_15 rfl ?_
  refine o_new C cl_Jx4a65c wd_78 wd_79 wd_49 df_Jx4a65c (by decide) (by decide) dX5_init_16 (fun q16 hn16 hb16 => ?_)
  refine o_dup C dX5_init_19 rfl ?_
  refine o_callI C mt_Jx4a65c_init_da8c8 rfl wd_81 wd_80 (c_ArrayList_init hl mst_s) ⟨lb rfl, lb rfl, lb rfl, lb rfl⟩ rfl (lb rfl) dX5_init_20 (fun _ _ h => h.elim) (fun v M2 hv => ?_)
  obtain ⟨rfl, rfl⟩ := hv
  have ne_a_q16 : a ≠ q16 := ne_new ka1 hn16
  have ne_q5_q16 : q5 ≠ q16 := ne_new kq51 hn16
  have nf_q16 : ∀ q e, N q = some e → q ≠ q16 := fun q e h => ne_new (hf1 q e h) hn16
  refine o_putF (fs' := [_, _, _, _, _]) C hnm cl_X5 ((mst_n ne_a_q16).trans ((mst_n ne_a_q16).trans (ka1))) 1 (by decide) wd_158 rfl rfl rfl rfl rfl (lb rfl) rfl rfl dX5_init_23 ?_
  have hf2 : ∀ q e, N q = some e → (mst (mst (mst M1 q16 (.inr (0, [.int 0, .null, .int 0]))) q16 (eList 0 (.ref (gT (cG X))) 0)) a (.inr (6, [.ref q5, .ref q16, .null, .null, .int 0]))) q = some e := fun q e h => by
    rw [mst_n (nfa q e h), mst_n (nf_q16 q e h), mst_n (nf_q16 q e h)]
    exact hf1 q e h
  have ka2 : (mst (mst (mst M1 q16 (.inr (0, [.int 0, .null, .int 0]))) q16 (eList 0 (.ref (gT (cG X))) 0)) a (.inr (6, [.ref q5, .ref q16, .null, .null, .int 0]))) a = some (.inr (6, [.ref q5, .ref q16, .null, .null, .int 0])) := by
    rw [mst_s]
  have kq52 : (mst (mst (mst M1 q16 (.inr (0, [.int 0, .null, .int 0]))) q16 (eList 0 (.ref (gT (cG X))) 0)) a (.inr (6, [.ref q5, .ref q16, .null, .null, .int 0]))) q5 = some (eList 0 (.ref (gT (cG X))) 0) := by
    rw [mst_n (Ne.symm ne_a_q5), mst_n ne_q5_q16, mst_n ne_q5_q16]; exact kq51
  have kq162 : (mst (mst (mst M1 q16 (.inr (0, [.int 0, .null, .int 0]))) q16 (eList 0 (.ref (gT (cG X))) 0)) a (.inr (6, [.ref q5, .ref q16, .null, .null, .int 0]))) q16 = some (eList 0 (.ref (gT (cG X))) 0) := by
    rw [mst_n (Ne.symm ne_a_q16), mst_s]
  generalize (mst (mst (mst M1 q16 (.inr (0, [.int 0, .null, .int 0]))) q16 (eList 0 (.ref (gT (cG X))) 0)) a (.inr (6, [.ref q5, .ref q16, .null, .null, .int 0]))) = M2 at *
  refine o_aload_n C dX5_init_26 rfl ?_
  refine o_new C cl_X4 wd_104 wd_105 wd_50 df_X4 (by decide) (by decide) dX5_init_27 (fun q27 hn27 hb27 => ?_)
  refine o_dup C dX5_init_30 rfl ?_
  refine o_callIN C mt_X4_init rfl wd_107 wd_106 (c_X4_init hl mst_s) ⟨lb rfl, lb rfl, lb rfl, lb rfl⟩ rfl (lb rfl) dX5_init_31 (fun _ _ h => h.elim) (fun v M2 hv => ?_)
  obtain ⟨rfl, b, f, n, p, fr_b, fr_f, fr_n, fr_p, e_bf, e_bn, e_bp, e_fn, e_fp, e_np, rfl⟩ := hv
  replace fr_b := fr_of fr_b
  replace fr_f := fr_of fr_f
  replace fr_n := fr_of fr_n
  replace fr_p := fr_of fr_p
  have ne_a_q27 : a ≠ q27 := ne_new ka2 hn27
  have ne_q5_q27 : q5 ≠ q27 := ne_new kq52 hn27
  have ne_q16_q27 : q16 ≠ q27 := ne_new kq162 hn27
  have nf_q27 : ∀ q e, N q = some e → q ≠ q27 := fun q e h => ne_new (hf2 q e h) hn27
  have ne_a_b : a ≠ b := ne_new ka2 fr_b.2
  have ne_q5_b : q5 ≠ b := ne_new kq52 fr_b.2
  have ne_q16_b : q16 ≠ b := ne_new kq162 fr_b.2
  have nf_b : ∀ q e, N q = some e → q ≠ b := fun q e h => ne_new (hf2 q e h) fr_b.2
  have ne_a_f : a ≠ f := ne_new ka2 fr_f.2
  have ne_q5_f : q5 ≠ f := ne_new kq52 fr_f.2
  have ne_q16_f : q16 ≠ f := ne_new kq162 fr_f.2
  have nf_f : ∀ q e, N q = some e → q ≠ f := fun q e h => ne_new (hf2 q e h) fr_f.2
  have ne_a_n : a ≠ n := ne_new ka2 fr_n.2
  have ne_q5_n : q5 ≠ n := ne_new kq52 fr_n.2
  have ne_q16_n : q16 ≠ n := ne_new kq162 fr_n.2
  have nf_n : ∀ q e, N q = some e → q ≠ n := fun q e h => ne_new (hf2 q e h) fr_n.2
  have ne_a_p : a ≠ p := ne_new ka2 fr_p.2
  have ne_q5_p : q5 ≠ p := ne_new kq52 fr_p.2
  have ne_q16_p : q16 ≠ p := ne_new kq162 fr_p.2
  have nf_p : ∀ q e, N q = some e → q ≠ p := fun q e h => ne_new (hf2 q e h) fr_p.2
  refine o_putF (fs' := [_, _, _, _, _]) C hnm cl_X5 ((mst_n ne_a_q27).trans ((mst_n ne_a_p).trans ((mst_n ne_a_n).trans ((mst_n ne_a_f).trans ((mst_n ne_a_b).trans ((mst_n ne_a_q27).trans (ka2))))))) 2 (by decide) wd_159 rfl rfl rfl rfl rfl (lb rfl) rfl rfl dX5_init_34 ?_
  have hf3 : ∀ q e, N q = some e → (mst (mst (mst (mst (mst (mst (mst M2 q27 (.inr (5, [.null, .null]))) b (aI (cG X) 12 (fun _ => 0))) f (eWay n p 0 0)) n (aI (cG X) 12 (fun _ => 0))) p (aI (cG X) 12 (fun _ => 0))) q27 (.inr (5, [.ref b, .ref f]))) a (.inr (6, [.ref q5, .ref q16, .ref q27, .null, .int 0]))) q = some e := fun q e h => by
    rw [mst_n (nfa q e h), mst_n (nf_q27 q e h), mst_n (nf_p q e h), mst_n (nf_n q e h), mst_n (nf_f q e h), mst_n (nf_b q e h), mst_n (nf_q27 q e h)]
    exact hf2 q e h
  have ka3 : (mst (mst (mst (mst (mst (mst (mst M2 q27 (.inr (5, [.null, .null]))) b (aI (cG X) 12 (fun _ => 0))) f (eWay n p 0 0)) n (aI (cG X) 12 (fun _ => 0))) p (aI (cG X) 12 (fun _ => 0))) q27 (.inr (5, [.ref b, .ref f]))) a (.inr (6, [.ref q5, .ref q16, .ref q27, .null, .int 0]))) a = some (.inr (6, [.ref q5, .ref q16, .ref q27, .null, .int 0])) := by
    rw [mst_s]
  have kq53 : (mst (mst (mst (mst (mst (mst (mst M2 q27 (.inr (5, [.null, .null]))) b (aI (cG X) 12 (fun _ => 0))) f (eWay n p 0 0)) n (aI (cG X) 12 (fun _ => 0))) p (aI (cG X) 12 (fun _ => 0))) q27 (.inr (5, [.ref b, .ref f]))) a (.inr (6, [.ref q5, .ref q16, .ref q27, .null, .int 0]))) q5 = some (eList 0 (.ref (gT (cG X))) 0) := by
    rw [mst_n (Ne.symm ne_a_q5), mst_n ne_q5_q27, mst_n ne_q5_p, mst_n ne_q5_n, mst_n ne_q5_f, mst_n ne_q5_b, mst_n ne_q5_q27]; exact kq52
  have kq163 : (mst (mst (mst (mst (mst (mst (mst M2 q27 (.inr (5, [.null, .null]))) b (aI (cG X) 12 (fun _ => 0))) f (eWay n p 0 0)) n (aI (cG X) 12 (fun _ => 0))) p (aI (cG X) 12 (fun _ => 0))) q27 (.inr (5, [.ref b, .ref f]))) a (.inr (6, [.ref q5, .ref q16, .ref q27, .null, .int 0]))) q16 = some (eList 0 (.ref (gT (cG X))) 0) := by
    rw [mst_n (Ne.symm ne_a_q16), mst_n ne_q16_q27, mst_n ne_q16_p, mst_n ne_q16_n, mst_n ne_q16_f, mst_n ne_q16_b, mst_n ne_q16_q27]; exact kq162
  have kq273 : (mst (mst (mst (mst (mst (mst (mst M2 q27 (.inr (5, [.null, .null]))) b (aI (cG X) 12 (fun _ => 0))) f (eWay n p 0 0)) n (aI (cG X) 12 (fun _ => 0))) p (aI (cG X) 12 (fun _ => 0))) q27 (.inr (5, [.ref b, .ref f]))) a (.inr (6, [.ref q5, .ref q16, .ref q27, .null, .int 0]))) q27 = some (.inr (5, [.ref b, .ref f])) := by
    rw [mst_n (Ne.symm ne_a_q27), mst_s]
  have kb3 : (mst (mst (mst (mst (mst (mst (mst M2 q27 (.inr (5, [.null, .null]))) b (aI (cG X) 12 (fun _ => 0))) f (eWay n p 0 0)) n (aI (cG X) 12 (fun _ => 0))) p (aI (cG X) 12 (fun _ => 0))) q27 (.inr (5, [.ref b, .ref f]))) a (.inr (6, [.ref q5, .ref q16, .ref q27, .null, .int 0]))) b = some (aI (cG X) 12 (fun _ => 0)) := by
    rw [mst_n (Ne.symm ne_a_b), mst_n fr_b.1, mst_n e_bp, mst_n e_bn, mst_n e_bf, mst_s]
  have kf3 : (mst (mst (mst (mst (mst (mst (mst M2 q27 (.inr (5, [.null, .null]))) b (aI (cG X) 12 (fun _ => 0))) f (eWay n p 0 0)) n (aI (cG X) 12 (fun _ => 0))) p (aI (cG X) 12 (fun _ => 0))) q27 (.inr (5, [.ref b, .ref f]))) a (.inr (6, [.ref q5, .ref q16, .ref q27, .null, .int 0]))) f = some (eWay n p 0 0) := by
    rw [mst_n (Ne.symm ne_a_f), mst_n fr_f.1, mst_n e_fp, mst_n e_fn, mst_s]
  have kn3 : (mst (mst (mst (mst (mst (mst (mst M2 q27 (.inr (5, [.null, .null]))) b (aI (cG X) 12 (fun _ => 0))) f (eWay n p 0 0)) n (aI (cG X) 12 (fun _ => 0))) p (aI (cG X) 12 (fun _ => 0))) q27 (.inr (5, [.ref b, .ref f]))) a (.inr (6, [.ref q5, .ref q16, .ref q27, .null, .int 0]))) n = some (aI (cG X) 12 (fun _ => 0)) := by
    rw [mst_n (Ne.symm ne_a_n), mst_n fr_n.1, mst_n e_np, mst_s]
  have kp3 : (mst (mst (mst (mst (mst (mst (mst M2 q27 (.inr (5, [.null, .null]))) b (aI (cG X) 12 (fun _ => 0))) f (eWay n p 0 0)) n (aI (cG X) 12 (fun _ => 0))) p (aI (cG X) 12 (fun _ => 0))) q27 (.inr (5, [.ref b, .ref f]))) a (.inr (6, [.ref q5, .ref q16, .ref q27, .null, .int 0]))) p = some (aI (cG X) 12 (fun _ => 0)) := by
    rw [mst_n (Ne.symm ne_a_p), mst_n fr_p.1, mst_s]
  generalize (mst (mst (mst (mst (mst (mst (mst M2 q27 (.inr (5, [.null, .null]))) b (aI (cG X) 12 (fun _ => 0))) f (eWay n p 0 0)) n (aI (cG X) 12 (fun _ => 0))) p (aI (cG X) 12 (fun _ => 0))) q27 (.inr (5, [.ref b, .ref f]))) a (.inr (6, [.ref q5, .ref q16, .ref q27, .null, .int 0]))) = M3 at *
  refine o_aload_n C dX5_init_37 rfl ?_
  refine o_new C cl_X2 wd_140 wd_141 wd_52 df_X2 (by decide) (by decide) dX5_init_38 (fun q38 hn38 hb38 => ?_)
  refine o_dup C dX5_init_41 rfl ?_
  refine o_callIN C mt_X2_init rfl wd_143 wd_142 (c_X2_init hl mst_s) ⟨lb rfl, lb rfl, lb rfl, lb rfl⟩ rfl (lb rfl) dX5_init_42 (fun _ _ h => h.elim) (fun v M2 hv => ?_)
  obtain ⟨rfl, w, u, r, fr_w, fr_u, fr_r, e_wu, e_wr, e_ur, rfl⟩ := hv
  replace fr_w := fr_of fr_w
  replace fr_u := fr_of fr_u
  replace fr_r := fr_of fr_r
  have ne_a_q38 : a ≠ q38 := ne_new ka3 hn38
  have ne_q5_q38 : q5 ≠ q38 := ne_new kq53 hn38
  have ne_q16_q38 : q16 ≠ q38 := ne_new kq163 hn38
  have ne_q27_q38 : q27 ≠ q38 := ne_new kq273 hn38
  have ne_b_q38 : b ≠ q38 := ne_new kb3 hn38
  have ne_f_q38 : f ≠ q38 := ne_new kf3 hn38
  have ne_n_q38 : n ≠ q38 := ne_new kn3 hn38
  have ne_p_q38 : p ≠ q38 := ne_new kp3 hn38
  have nf_q38 : ∀ q e, N q = some e → q ≠ q38 := fun q e h => ne_new (hf3 q e h) hn38
  have ne_a_w : a ≠ w := ne_new ka3 fr_w.2
  have ne_q5_w : q5 ≠ w := ne_new kq53 fr_w.2
  have ne_q16_w : q16 ≠ w := ne_new kq163 fr_w.2
  have ne_q27_w : q27 ≠ w := ne_new kq273 fr_w.2
  have ne_b_w : b ≠ w := ne_new kb3 fr_w.2
  have ne_f_w : f ≠ w := ne_new kf3 fr_w.2
  have ne_n_w : n ≠ w := ne_new kn3 fr_w.2
  have ne_p_w : p ≠ w := ne_new kp3 fr_w.2
  have nf_w : ∀ q e, N q = some e → q ≠ w := fun q e h => ne_new (hf3 q e h) fr_w.2
  have ne_a_u : a ≠ u := ne_new ka3 fr_u.2
  have ne_q5_u : q5 ≠ u := ne_new kq53 fr_u.2
  have ne_q16_u : q16 ≠ u := ne_new kq163 fr_u.2
  have ne_q27_u : q27 ≠ u := ne_new kq273 fr_u.2
  have ne_b_u : b ≠ u := ne_new kb3 fr_u.2
  have ne_f_u : f ≠ u := ne_new kf3 fr_u.2
  have ne_n_u : n ≠ u := ne_new kn3 fr_u.2
  have ne_p_u : p ≠ u := ne_new kp3 fr_u.2
  have nf_u : ∀ q e, N q = some e → q ≠ u := fun q e h => ne_new (hf3 q e h) fr_u.2
  have ne_a_r : a ≠ r := ne_new ka3 fr_r.2
  have ne_q5_r : q5 ≠ r := ne_new kq53 fr_r.2
  have ne_q16_r : q16 ≠ r := ne_new kq163 fr_r.2
  have ne_q27_r : q27 ≠ r := ne_new kq273 fr_r.2
  have ne_b_r : b ≠ r := ne_new kb3 fr_r.2
  have ne_f_r : f ≠ r := ne_new kf3 fr_r.2
  have ne_n_r : n ≠ r := ne_new kn3 fr_r.2
  have ne_p_r : p ≠ r := ne_new kp3 fr_r.2
  have nf_r : ∀ q e, N q = some e → q ≠ r := fun q e h => ne_new (hf3 q e h) fr_r.2
  refine o_putF (fs' := [_, _, _, _, _]) C hnm cl_X5 ((mst_n ne_a_q38).trans ((mst_n ne_a_r).trans ((mst_n ne_a_u).trans ((mst_n ne_a_w).trans ((mst_n ne_a_q38).trans (ka3)))))) 3 (by decide) wd_160 rfl rfl rfl rfl rfl (lb rfl) rfl rfl dX5_init_45 ?_
  have hf4 : ∀ q e, N q = some e → (mst (mst (mst (mst (mst (mst M3 q38 (.inr (3, [.null, .null, .null]))) w (aI (cG X) 11 (fun q => if q < 11 then -1 else 0))) u (aZ (cG X) 11 (fun _ => 0))) r (aZ (cG X) 11 (fun _ => 0))) q38 (.inr (3, [.ref w, .ref u, .ref r]))) a (.inr (6, [.ref q5, .ref q16, .ref q27, .ref q38, .int 0]))) q = some e := fun q e h => by
    rw [mst_n (nfa q e h), mst_n (nf_q38 q e h), mst_n (nf_r q e h), mst_n (nf_u q e h), mst_n (nf_w q e h), mst_n (nf_q38 q e h)]
    exact hf3 q e h
  have ka4 : (mst (mst (mst (mst (mst (mst M3 q38 (.inr (3, [.null, .null, .null]))) w (aI (cG X) 11 (fun q => if q < 11 then -1 else 0))) u (aZ (cG X) 11 (fun _ => 0))) r (aZ (cG X) 11 (fun _ => 0))) q38 (.inr (3, [.ref w, .ref u, .ref r]))) a (.inr (6, [.ref q5, .ref q16, .ref q27, .ref q38, .int 0]))) a = some (.inr (6, [.ref q5, .ref q16, .ref q27, .ref q38, .int 0])) := by
    rw [mst_s]
  have kq54 : (mst (mst (mst (mst (mst (mst M3 q38 (.inr (3, [.null, .null, .null]))) w (aI (cG X) 11 (fun q => if q < 11 then -1 else 0))) u (aZ (cG X) 11 (fun _ => 0))) r (aZ (cG X) 11 (fun _ => 0))) q38 (.inr (3, [.ref w, .ref u, .ref r]))) a (.inr (6, [.ref q5, .ref q16, .ref q27, .ref q38, .int 0]))) q5 = some (eList 0 (.ref (gT (cG X))) 0) := by
    rw [mst_n (Ne.symm ne_a_q5), mst_n ne_q5_q38, mst_n ne_q5_r, mst_n ne_q5_u, mst_n ne_q5_w, mst_n ne_q5_q38]; exact kq53
  have kq164 : (mst (mst (mst (mst (mst (mst M3 q38 (.inr (3, [.null, .null, .null]))) w (aI (cG X) 11 (fun q => if q < 11 then -1 else 0))) u (aZ (cG X) 11 (fun _ => 0))) r (aZ (cG X) 11 (fun _ => 0))) q38 (.inr (3, [.ref w, .ref u, .ref r]))) a (.inr (6, [.ref q5, .ref q16, .ref q27, .ref q38, .int 0]))) q16 = some (eList 0 (.ref (gT (cG X))) 0) := by
    rw [mst_n (Ne.symm ne_a_q16), mst_n ne_q16_q38, mst_n ne_q16_r, mst_n ne_q16_u, mst_n ne_q16_w, mst_n ne_q16_q38]; exact kq163
  have kq274 : (mst (mst (mst (mst (mst (mst M3 q38 (.inr (3, [.null, .null, .null]))) w (aI (cG X) 11 (fun q => if q < 11 then -1 else 0))) u (aZ (cG X) 11 (fun _ => 0))) r (aZ (cG X) 11 (fun _ => 0))) q38 (.inr (3, [.ref w, .ref u, .ref r]))) a (.inr (6, [.ref q5, .ref q16, .ref q27, .ref q38, .int 0]))) q27 = some (.inr (5, [.ref b, .ref f])) := by
    rw [mst_n (Ne.symm ne_a_q27), mst_n ne_q27_q38, mst_n ne_q27_r, mst_n ne_q27_u, mst_n ne_q27_w, mst_n ne_q27_q38]; exact kq273
  have kb4 : (mst (mst (mst (mst (mst (mst M3 q38 (.inr (3, [.null, .null, .null]))) w (aI (cG X) 11 (fun q => if q < 11 then -1 else 0))) u (aZ (cG X) 11 (fun _ => 0))) r (aZ (cG X) 11 (fun _ => 0))) q38 (.inr (3, [.ref w, .ref u, .ref r]))) a (.inr (6, [.ref q5, .ref q16, .ref q27, .ref q38, .int 0]))) b = some (aI (cG X) 12 (fun _ => 0)) := by
    rw [mst_n (Ne.symm ne_a_b), mst_n ne_b_q38, mst_n ne_b_r, mst_n ne_b_u, mst_n ne_b_w, mst_n ne_b_q38]; exact kb3
  have kf4 : (mst (mst (mst (mst (mst (mst M3 q38 (.inr (3, [.null, .null, .null]))) w (aI (cG X) 11 (fun q => if q < 11 then -1 else 0))) u (aZ (cG X) 11 (fun _ => 0))) r (aZ (cG X) 11 (fun _ => 0))) q38 (.inr (3, [.ref w, .ref u, .ref r]))) a (.inr (6, [.ref q5, .ref q16, .ref q27, .ref q38, .int 0]))) f = some (eWay n p 0 0) := by
    rw [mst_n (Ne.symm ne_a_f), mst_n ne_f_q38, mst_n ne_f_r, mst_n ne_f_u, mst_n ne_f_w, mst_n ne_f_q38]; exact kf3
  have kn4 : (mst (mst (mst (mst (mst (mst M3 q38 (.inr (3, [.null, .null, .null]))) w (aI (cG X) 11 (fun q => if q < 11 then -1 else 0))) u (aZ (cG X) 11 (fun _ => 0))) r (aZ (cG X) 11 (fun _ => 0))) q38 (.inr (3, [.ref w, .ref u, .ref r]))) a (.inr (6, [.ref q5, .ref q16, .ref q27, .ref q38, .int 0]))) n = some (aI (cG X) 12 (fun _ => 0)) := by
    rw [mst_n (Ne.symm ne_a_n), mst_n ne_n_q38, mst_n ne_n_r, mst_n ne_n_u, mst_n ne_n_w, mst_n ne_n_q38]; exact kn3
  have kp4 : (mst (mst (mst (mst (mst (mst M3 q38 (.inr (3, [.null, .null, .null]))) w (aI (cG X) 11 (fun q => if q < 11 then -1 else 0))) u (aZ (cG X) 11 (fun _ => 0))) r (aZ (cG X) 11 (fun _ => 0))) q38 (.inr (3, [.ref w, .ref u, .ref r]))) a (.inr (6, [.ref q5, .ref q16, .ref q27, .ref q38, .int 0]))) p = some (aI (cG X) 12 (fun _ => 0)) := by
    rw [mst_n (Ne.symm ne_a_p), mst_n ne_p_q38, mst_n ne_p_r, mst_n ne_p_u, mst_n ne_p_w, mst_n ne_p_q38]; exact kp3
  have kq384 : (mst (mst (mst (mst (mst (mst M3 q38 (.inr (3, [.null, .null, .null]))) w (aI (cG X) 11 (fun q => if q < 11 then -1 else 0))) u (aZ (cG X) 11 (fun _ => 0))) r (aZ (cG X) 11 (fun _ => 0))) q38 (.inr (3, [.ref w, .ref u, .ref r]))) a (.inr (6, [.ref q5, .ref q16, .ref q27, .ref q38, .int 0]))) q38 = some (.inr (3, [.ref w, .ref u, .ref r])) := by
    rw [mst_n (Ne.symm ne_a_q38), mst_s]
  have kw4 : (mst (mst (mst (mst (mst (mst M3 q38 (.inr (3, [.null, .null, .null]))) w (aI (cG X) 11 (fun q => if q < 11 then -1 else 0))) u (aZ (cG X) 11 (fun _ => 0))) r (aZ (cG X) 11 (fun _ => 0))) q38 (.inr (3, [.ref w, .ref u, .ref r]))) a (.inr (6, [.ref q5, .ref q16, .ref q27, .ref q38, .int 0]))) w = some (aI (cG X) 11 (fun q => if q < 11 then -1 else 0)) := by
    rw [mst_n (Ne.symm ne_a_w), mst_n fr_w.1, mst_n e_wr, mst_n e_wu, mst_s]
  have ku4 : (mst (mst (mst (mst (mst (mst M3 q38 (.inr (3, [.null, .null, .null]))) w (aI (cG X) 11 (fun q => if q < 11 then -1 else 0))) u (aZ (cG X) 11 (fun _ => 0))) r (aZ (cG X) 11 (fun _ => 0))) q38 (.inr (3, [.ref w, .ref u, .ref r]))) a (.inr (6, [.ref q5, .ref q16, .ref q27, .ref q38, .int 0]))) u = some (aZ (cG X) 11 (fun _ => 0)) := by
    rw [mst_n (Ne.symm ne_a_u), mst_n fr_u.1, mst_n e_ur, mst_s]
  have kr4 : (mst (mst (mst (mst (mst (mst M3 q38 (.inr (3, [.null, .null, .null]))) w (aI (cG X) 11 (fun q => if q < 11 then -1 else 0))) u (aZ (cG X) 11 (fun _ => 0))) r (aZ (cG X) 11 (fun _ => 0))) q38 (.inr (3, [.ref w, .ref u, .ref r]))) a (.inr (6, [.ref q5, .ref q16, .ref q27, .ref q38, .int 0]))) r = some (aZ (cG X) 11 (fun _ => 0)) := by
    rw [mst_n (Ne.symm ne_a_r), mst_n fr_r.1, mst_s]
  generalize (mst (mst (mst (mst (mst (mst M3 q38 (.inr (3, [.null, .null, .null]))) w (aI (cG X) 11 (fun q => if q < 11 then -1 else 0))) u (aZ (cG X) 11 (fun _ => 0))) r (aZ (cG X) 11 (fun _ => 0))) q38 (.inr (3, [.ref w, .ref u, .ref r]))) a (.inr (6, [.ref q5, .ref q16, .ref q27, .ref q38, .int 0]))) = M4 at *
  refine o_aload_n C dX5_init_48 rfl ?_
  refine o_iconst (v := 0) C dX5_init_49 (by decide) ?_
  refine o_put (fs' := [_, _, _, _, _]) C cl_X5 ka4 4 (by decide) wd_161 rfl rfl rfl rfl (lb rfl) rfl (mst_id ka4) dX5_init_50 ?_
  refine o_vret C Rt dX5_init_53 (by decide) (by decide) ?_
  refine ⟨rfl, ad0 (cG X) [a, q5, q16, q27, b, f, n, p, q38, w, u, r], rfl, rep_new ?_ rfl ?_ ?_⟩
  · simp only [List.nodup_cons, List.mem_cons, List.not_mem_nil, or_false, not_or, not_false_eq_true, List.nodup_nil, and_true]
    exact ⟨⟨ne_a_q5, ne_a_q16, ne_a_q27, ne_a_b, ne_a_f, ne_a_n, ne_a_p, ne_a_q38, ne_a_w, ne_a_u, ne_a_r⟩, ⟨ne_q5_q16, ne_q5_q27, ne_q5_b, ne_q5_f, ne_q5_n, ne_q5_p, ne_q5_q38, ne_q5_w, ne_q5_u, ne_q5_r⟩, ⟨ne_q16_q27, ne_q16_b, ne_q16_f, ne_q16_n, ne_q16_p, ne_q16_q38, ne_q16_w, ne_q16_u, ne_q16_r⟩, ⟨(Ne.symm fr_b.1), (Ne.symm fr_f.1), (Ne.symm fr_n.1), (Ne.symm fr_p.1), ne_q27_q38, ne_q27_w, ne_q27_u, ne_q27_r⟩, ⟨e_bf, e_bn, e_bp, ne_b_q38, ne_b_w, ne_b_u, ne_b_r⟩, ⟨e_fn, e_fp, ne_f_q38, ne_f_w, ne_f_u, ne_f_r⟩, ⟨e_np, ne_n_q38, ne_n_w, ne_n_u, ne_n_r⟩, ⟨ne_p_q38, ne_p_w, ne_p_u, ne_p_r⟩, ⟨(Ne.symm fr_w.1), (Ne.symm fr_u.1), (Ne.symm fr_r.1)⟩, ⟨e_wu, e_wr⟩, e_ur⟩
  · intro k hk
    simp only [k0s, List.mem_cons, List.not_mem_nil, or_false] at hk
    rcases hk with rfl | rfl | rfl | rfl | rfl | rfl | rfl | rfl | rfl | rfl | rfl | rfl
    · exact ka4
    · exact kq54
    · exact kq164
    · exact kq274
    · exact kb4
    · exact kf4
    · exact kn4
    · exact kp4
    · exact kq384
    · exact kw4
    · exact ku4
    · exact kr4
  · intro q e hq
    refine ⟨hf4 q e hq, fun k hk => ?_⟩
    simp only [k0s, List.mem_cons, List.not_mem_nil, or_false] at hk
    rcases hk with rfl | rfl | rfl | rfl | rfl | rfl | rfl | rfl | rfl | rfl | rfl | rfl
    · exact Ne.symm (nfa q e hq)
    · exact Ne.symm (nf_q5 q e hq)
    · exact Ne.symm (nf_q16 q e hq)
    · exact Ne.symm (nf_q27 q e hq)
    · exact Ne.symm (nf_b q e hq)
    · exact Ne.symm (nf_f q e hq)
    · exact Ne.symm (nf_n q e hq)
    · exact Ne.symm (nf_p q e hq)
    · exact Ne.symm (nf_q38 q e hq)
    · exact Ne.symm (nf_w q e hq)
    · exact Ne.symm (nf_u q e hq)
    · exact Ne.symm (nf_r q e hq)
