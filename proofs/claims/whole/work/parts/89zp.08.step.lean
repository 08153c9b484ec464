/-! the reflected machine's steps are the machine's: all but calls and returns -/
section SN
variable {p : Program} {l : Launch} {e : Env} {R : Room} {s : State} {m : MethodId} {args : Array Value} {below : List Frame} {meth : Method} {c : Code} {G : Gp} {mi d n0 s0 : Nat} {Q : State → Prop}
set_option maxHeartbeats 8000000 in
set_option maxRecDepth 20000 in
theorem sim_n (C : Cx G p R s m args meth c mi d) {pc pc' : Nat} {ls ls' st st' : List Value} {h h1 : Hp} (hst : stp d mi pc ls st h = some (.inl (pc', ls', st', h1))) (hr1 : h1.1 ≤ R.cells + n0) (hr2 : h1.2.1 ≤ R.slots + s0)
    {H : Heap} {locs : List Loc} {cells slots : Nat} {arr : Array Slot} (V : Vx G s R n0 s0 (mR mi).2.2.2.1 h ls H locs cells slots arr)
    (kk : ∀ (H1 : Heap) (locs1 : List Loc) (cells1 slots1 : Nat) (arr1 : Array Slot), Vx G s R n0 s0 (mR mi).2.2.2.1 h1 ls' H1 locs1 cells1 slots1 arr1 → W p l e R s m args below meth c H1 locs1 cells1 slots1 Q (F0 m pc' arr1 (st'.map (cv G)))) :
    W p l e R s m args below meth c H locs cells slots Q (F0 m pc arr (st.map (cv G))) := by
  obtain ⟨hx, hb, hml, hown, hts, hKK, hEX, hini, hdf, hdl, hg, ho⟩ := C
  obtain ⟨hc, hs, hL, hW, hS⟩ := V
  unfold stp at hst
  cases hcod : cod mi pc with
  | none => rw [hcod] at hst; cases hst
  | some q =>
    obtain ⟨I, len⟩ := q
    rw [hcod] at hst
    have hd : decode (mR mi).2.2.1 pc = .ok (I, len) := by
      unfold cod at hcod
      split at hcod
      · rename_i x hx1
        rw [hx1, Option.some.inj hcod]
      · cases hcod
    clear hcod
    simp only at hst
    unfold stI at hst
    split at hst
    · -- .iconst n, 1
      rename_i n
      cases hst
      exact lv_iconst hx hb hd rfl (kk _ _ _ _ _ ⟨hc, hs, hL, hW, hS⟩)
    · -- .bipush n, 2
      rename_i n
      cases hst
      exact lv_bipush hx hb hd rfl (kk _ _ _ _ _ ⟨hc, hs, hL, hW, hS⟩)
    · -- .sipush n, 3
      rename_i n
      cases hst
      exact lv_sipush hx hb hd rfl (kk _ _ _ _ _ ⟨hc, hs, hL, hW, hS⟩)
    · -- .lconst n, 1
      rename_i n
      cases hst
      exact lv_lconst hx hb hd rfl (kk _ _ _ _ _ ⟨hc, hs, hL, hW, hS⟩)
    · -- .ldc k, 2
      rename_i k
      split at hst
      · rename_i v hv
        cases hst
        exact lv_ldc hx hb hown (hts _ (ic_ok hv)) hd (kk _ _ _ _ _ ⟨hc, hs, hL, hW, hS⟩)
      · rename_i i hn hv
        cases hst
        have h6 : i < 6 := by
          have h9 := sc_ok hv
          revert h9
          generalize (mR mi).1 = o
          intro h9
          simp only [stT, stT_0, List.mem_cons, Prod.mk.injEq, List.not_mem_nil, or_false] at h9
          omega
        have h8 := hKK.2.2.2 _ (sc_ok hv)
        refine va_ldcS (tx := stN i) (q := G.2.2.1 i) hx hb hown h8 hd ?_
        have e8 : cv G (.ref (1 + i)) = .ref (G.2.2.1 i) := by
          show Value.ref (gad G (1 + i)) = _
          simp [gad, show ¬ 13 ≤ 1 + i by omega, show 1 + i < 7 by omega]
        have h7 := kk _ _ _ _ _ ⟨hc, hs, hL, hW, hS⟩
        rw [List.map_cons, e8] at h7
        exact h7
      · cases hst
    · -- .ldc_w k, 3
      rename_i k
      split at hst
      · rename_i v hv
        cases hst
        exact lv_ldcw hx hb hown (hts _ (ic_ok hv)) hd (kk _ _ _ _ _ ⟨hc, hs, hL, hW, hS⟩)
      · cases hst
    · -- .ldc2_w k, 3
      rename_i k
      split at hst
      · rename_i v hv
        cases hst
        exact lv_ldc2 hx hb hown (hts _ (lc_ok hv)) hd (kk _ _ _ _ _ ⟨hc, hs, hL, hW, hS⟩)
      · cases hst
    · -- .iload k, 2
      rename_i k
      split at hst
      · rename_i x hv
        cases hst
        exact lv_iload hx hb hd (hL.get hv rfl) (kk _ _ _ _ _ ⟨hc, hs, hL, hW, hS⟩)
      · cases hst
    · -- .iload_n k, 1
      rename_i k
      split at hst
      · rename_i x hv
        cases hst
        exact lv_iload_n hx hb hd rfl (hL.get hv rfl) (kk _ _ _ _ _ ⟨hc, hs, hL, hW, hS⟩)
      · cases hst
    · -- .lload k, 2
      rename_i k
      split at hst
      · rename_i x hv
        cases hst
        exact lv_lload hx hb hd (hL.get hv rfl) (kk _ _ _ _ _ ⟨hc, hs, hL, hW, hS⟩)
      · cases hst
    · -- .lload_n k, 1
      rename_i k
      split at hst
      · rename_i x hv
        cases hst
        exact lv_lload_n hx hb hd rfl (hL.get hv rfl) (kk _ _ _ _ _ ⟨hc, hs, hL, hW, hS⟩)
      · cases hst
    · -- .aload k, 2
      rename_i k
      split at hst
      · rename_i x hv
        cases hst
        exact lv_aload hx hb hd (hL.get hv rfl) (kk _ _ _ _ _ ⟨hc, hs, hL, hW, hS⟩)
      · rename_i hv
        cases hst
        exact lv_aloadN hx hb hd (hL.get hv rfl) (kk _ _ _ _ _ ⟨hc, hs, hL, hW, hS⟩)
      · rename_i x hv
        cases hst
        have h7 := hL.get hv rfl
        have h8 := kk _ _ _ _ _ ⟨hc, hs, hL, hW, hS⟩
        have h9 : cv G (.retAddr x) = G.2.2.2.2.1 := rfl
        rw [h9] at h7
        rw [List.map_cons, h9] at h8
        rcases ho with ho | ⟨t, ho⟩
        · rw [ho] at h7 h8
          exact lv_aloadN hx hb hd h7 h8
        · rw [ho] at h7 h8
          exact lv_aload hx hb hd h7 h8
      · cases hst
    · -- .aload_n k, 1
      rename_i k
      split at hst
      · rename_i x hv
        cases hst
        exact lv_aload_n hx hb hd rfl (hL.get hv rfl) (kk _ _ _ _ _ ⟨hc, hs, hL, hW, hS⟩)
      · rename_i hv
        cases hst
        exact lv_aload_nN hx hb hd rfl (hL.get hv rfl) (kk _ _ _ _ _ ⟨hc, hs, hL, hW, hS⟩)
      · rename_i x hv
        cases hst
        have h7 := hL.get hv rfl
        have h8 := kk _ _ _ _ _ ⟨hc, hs, hL, hW, hS⟩
        have h9 : cv G (.retAddr x) = G.2.2.2.2.1 := rfl
        rw [h9] at h7
        rw [List.map_cons, h9] at h8
        rcases ho with ho | ⟨t, ho⟩
        · rw [ho] at h7 h8
          exact lv_aload_nN hx hb hd rfl h7 h8
        · rw [ho] at h7 h8
          exact lv_aload_n hx hb hd rfl h7 h8
      · cases hst
    · -- .istore k, 2
      rename_i k
      obtain ⟨x, r, rfl, hst⟩ := p1_ok hst
      obtain ⟨hk, hst⟩ := if_none hst
      cases hst
      exact lv_istore hx hb hd hL.1 (by rw [← hL.2]; exact hk) rfl (fun arr1 h7 => kk _ _ _ _ _ ⟨hc, hs, hL.st ho (v := .int x) h7, hW, hS⟩)
    · -- .lstore k, 2
      rename_i k
      obtain ⟨x, r, rfl, hst⟩ := q1_ok hst
      obtain ⟨hk, hst⟩ := if_none hst
      cases hst
      exact lv_lstore hx hb hd hL.1 (by rw [← hL.2]; exact hk) rfl (fun arr1 h7 => kk _ _ _ _ _ ⟨hc, hs, hL.st2 ho (v := .long x) h7, hW, hS⟩)
    · -- .astore k, 2
      rename_i k
      cases hsx : st with
      | nil => rw [hsx] at hst; cases hst
      | cons v0 r =>
      rw [hsx] at hst
      cases v0 <;> first | (cases hst; done) | skip
      rename_i x
      obtain ⟨hk, hst⟩ := if_none hst
      cases hst
      exact lv_astore hx hb hd hL.1 (by rw [← hL.2]; exact hk) rfl (fun arr1 h7 => kk _ _ _ _ _ ⟨hc, hs, hL.st ho (v := .ref x) h7, hW, hS⟩)
    · -- .istore_n k, 1
      rename_i k
      obtain ⟨x, r, rfl, hst⟩ := p1_ok hst
      obtain ⟨hk, hst⟩ := if_none hst
      cases hst
      exact lv_istore_n hx hb hd rfl hL.1 (by rw [← hL.2]; exact hk) rfl (fun arr1 h7 => kk _ _ _ _ _ ⟨hc, hs, hL.st ho (v := .int x) h7, hW, hS⟩)
    · -- .lstore_n k, 1
      rename_i k
      obtain ⟨x, r, rfl, hst⟩ := q1_ok hst
      obtain ⟨hk, hst⟩ := if_none hst
      cases hst
      exact lv_lstore_n hx hb hd rfl hL.1 (by rw [← hL.2]; exact hk) rfl (fun arr1 h7 => kk _ _ _ _ _ ⟨hc, hs, hL.st2 ho (v := .long x) h7, hW, hS⟩)
    · -- .astore_n k, 1
      rename_i k
      cases hsx : st with
      | nil => rw [hsx] at hst; cases hst
      | cons v0 r =>
      rw [hsx] at hst
      cases v0 <;> first | (cases hst; done) | skip
      rename_i x
      obtain ⟨hk, hst⟩ := if_none hst
      cases hst
      exact lv_astore_n hx hb hd rfl hL.1 (by rw [← hL.2]; exact hk) rfl (fun arr1 h7 => kk _ _ _ _ _ ⟨hc, hs, hL.st ho (v := .ref x) h7, hW, hS⟩)
    · -- .iinc k n, 3
      rename_i k n
      split at hst
      · rename_i x hv
        obtain ⟨hk, hst⟩ := if_none hst
        cases hst
        have h6 := lps_get (G := G) ls 0 k (.int x) hv rfl
        rw [Nat.zero_add] at h6
        obtain ⟨j, h6⟩ := List.getElem?_of_mem h6
        exact lv_iinc hx hb hd hL.1 h6 rfl (by rw [← hL.2]; exact hk) rfl (fun arr1 h7 => kk _ _ _ _ _ ⟨hc, hs, hL.st ho (v := .int (x + Int32.ofInt n)) h7, hW, hS⟩)
      · cases hst
    · -- .iadd, 1
      obtain ⟨x, y, r, rfl, hst⟩ := p2_ok hst
      cases hst
      exact lv_iadd hx hb hd (kk _ _ _ _ _ ⟨hc, hs, hL, hW, hS⟩)
    · -- .isub, 1
      obtain ⟨x, y, r, rfl, hst⟩ := p2_ok hst
      cases hst
      exact lv_isub hx hb hd (kk _ _ _ _ _ ⟨hc, hs, hL, hW, hS⟩)
    · -- .imul, 1
      obtain ⟨x, y, r, rfl, hst⟩ := p2_ok hst
      cases hst
      exact lv_imul hx hb hd (kk _ _ _ _ _ ⟨hc, hs, hL, hW, hS⟩)
    · -- .iand, 1
      obtain ⟨x, y, r, rfl, hst⟩ := p2_ok hst
      cases hst
      exact lv_iand hx hb hd (kk _ _ _ _ _ ⟨hc, hs, hL, hW, hS⟩)
    · -- .ior, 1
      obtain ⟨x, y, r, rfl, hst⟩ := p2_ok hst
      cases hst
      exact lv_ior hx hb hd (kk _ _ _ _ _ ⟨hc, hs, hL, hW, hS⟩)
    · -- .ixor, 1
      obtain ⟨x, y, r, rfl, hst⟩ := p2_ok hst
      cases hst
      exact lv_ixor hx hb hd (kk _ _ _ _ _ ⟨hc, hs, hL, hW, hS⟩)
    · -- .ishl, 1
      obtain ⟨x, y, r, rfl, hst⟩ := p2_ok hst
      cases hst
      exact lv_ishl hx hb hd (kk _ _ _ _ _ ⟨hc, hs, hL, hW, hS⟩)
    · -- .ishr, 1
      obtain ⟨x, y, r, rfl, hst⟩ := p2_ok hst
      cases hst
      exact lv_ishr hx hb hd (kk _ _ _ _ _ ⟨hc, hs, hL, hW, hS⟩)
    · -- .iushr, 1
      obtain ⟨x, y, r, rfl, hst⟩ := p2_ok hst
      cases hst
      exact lv_iushr hx hb hd rfl (kk _ _ _ _ _ ⟨hc, hs, hL, hW, hS⟩)
    · -- .idiv, 1
      obtain ⟨x, y, r, rfl, hst⟩ := p2_ok hst
      obtain ⟨hn, hst⟩ := none_if hst
      cases hst
      exact lv_idiv hx hb hd hn (kk _ _ _ _ _ ⟨hc, hs, hL, hW, hS⟩)
    · -- .irem, 1
      obtain ⟨x, y, r, rfl, hst⟩ := p2_ok hst
      obtain ⟨hn, hst⟩ := none_if hst
      cases hst
      exact lv_irem hx hb hd hn (kk _ _ _ _ _ ⟨hc, hs, hL, hW, hS⟩)
    · -- .ladd, 1
      obtain ⟨x, y, r, rfl, hst⟩ := q2_ok hst
      cases hst
      exact lv_ladd hx hb hd (kk _ _ _ _ _ ⟨hc, hs, hL, hW, hS⟩)
    · -- .lmul, 1
      obtain ⟨x, y, r, rfl, hst⟩ := q2_ok hst
      cases hst
      exact lv_lmul hx hb hd (kk _ _ _ _ _ ⟨hc, hs, hL, hW, hS⟩)
    · -- .ldiv, 1
      obtain ⟨x, y, r, rfl, hst⟩ := q2_ok hst
      obtain ⟨hn, hst⟩ := none_if hst
      cases hst
      exact lv_ldiv hx hb hd hn (kk _ _ _ _ _ ⟨hc, hs, hL, hW, hS⟩)
    · -- .lrem, 1
      obtain ⟨x, y, r, rfl, hst⟩ := q2_ok hst
      obtain ⟨hn, hst⟩ := none_if hst
      cases hst
      exact lv_lrem hx hb hd hn (kk _ _ _ _ _ ⟨hc, hs, hL, hW, hS⟩)
    · -- .lcmp, 1
      obtain ⟨x, y, r, rfl, hst⟩ := q2_ok hst
      cases hst
      exact W.lcmp hx hb hd (kk _ _ _ _ _ ⟨hc, hs, hL, hW, hS⟩)
    · -- .i2l, 1
      obtain ⟨x, r, rfl, hst⟩ := p1_ok hst
      cases hst
      exact lv_i2l hx hb hd rfl (kk _ _ _ _ _ ⟨hc, hs, hL, hW, hS⟩)
    · -- .i2c, 1
      obtain ⟨x, r, rfl, hst⟩ := p1_ok hst
      cases hst
      exact lv_i2c hx hb hd rfl (kk _ _ _ _ _ ⟨hc, hs, hL, hW, hS⟩)
    · -- .l2i, 1
      obtain ⟨x, r, rfl, hst⟩ := q1_ok hst
      cases hst
      exact lv_l2i hx hb hd rfl (kk _ _ _ _ _ ⟨hc, hs, hL, hW, hS⟩)
    · -- .dup, 1
      split at hst
      · rename_i v r
        obtain ⟨hv, hst⟩ := if_none hst
        cases hst
        exact lv_dup hx hb hd (by rw [cv_cat ho]; exact hv) (kk _ _ _ _ _ ⟨hc, hs, hL, hW, hS⟩)
      · cases hst
    · -- .pop, 1
      split at hst
      · rename_i v r
        obtain ⟨hv, hst⟩ := if_none hst
        cases hst
        exact lv_pop hx hb hd (by rw [cv_cat ho]; exact hv) (kk _ _ _ _ _ ⟨hc, hs, hL, hW, hS⟩)
      · cases hst
    · -- .dup2, 1
      split at hst
      · rename_i v w r
        obtain ⟨hv, hst⟩ := if_none hst
        cases hst
        exact lv_dup2_11 hx hb hd (by rw [cv_cat ho]; exact hv.1) (by rw [cv_cat ho]; exact hv.2) (kk _ _ _ _ _ ⟨hc, hs, hL, hW, hS⟩)
      · cases hst
    · -- .ifCond .eq off, 3
      rename_i off
      obtain ⟨x, r, rfl, hs2⟩ := p1_ok hst
      obtain ⟨t, ht, hst⟩ := go_ok hs2
      refine lv_if_eq (tgt := t) hx hb hd ht (fun q => ?_) (fun q => ?_)
      · rw [if_pos q] at hst
        cases hst
        exact kk _ _ _ _ _ ⟨hc, hs, hL, hW, hS⟩
      · rw [if_neg q] at hst
        cases hst
        exact kk _ _ _ _ _ ⟨hc, hs, hL, hW, hS⟩
    · -- .if_icmp .eq off, 3
      rename_i off
      obtain ⟨x, y, r, rfl, hs2⟩ := p2_ok hst
      obtain ⟨t, ht, hst⟩ := go_ok hs2
      refine lv_icmp_eq (tgt := t) hx hb hd ht (fun q => ?_) (fun q => ?_)
      · rw [if_pos q] at hst
        cases hst
        exact kk _ _ _ _ _ ⟨hc, hs, hL, hW, hS⟩
      · rw [if_neg q] at hst
        cases hst
        exact kk _ _ _ _ _ ⟨hc, hs, hL, hW, hS⟩
    · -- .ifCond .ne off, 3
      rename_i off
      obtain ⟨x, r, rfl, hs2⟩ := p1_ok hst
      obtain ⟨t, ht, hst⟩ := go_ok hs2
      refine lv_if_ne (tgt := t) hx hb hd ht (fun q => ?_) (fun q => ?_)
      · rw [if_pos q] at hst
        cases hst
        exact kk _ _ _ _ _ ⟨hc, hs, hL, hW, hS⟩
      · rw [if_neg (fun z => z q)] at hst
        cases hst
        exact kk _ _ _ _ _ ⟨hc, hs, hL, hW, hS⟩
    · -- .if_icmp .ne off, 3
      rename_i off
      obtain ⟨x, y, r, rfl, hs2⟩ := p2_ok hst
      obtain ⟨t, ht, hst⟩ := go_ok hs2
      refine lv_icmp_ne (tgt := t) hx hb hd ht (fun q => ?_) (fun q => ?_)
      · rw [if_pos q] at hst
        cases hst
        exact kk _ _ _ _ _ ⟨hc, hs, hL, hW, hS⟩
      · rw [if_neg (fun z => z q)] at hst
        cases hst
        exact kk _ _ _ _ _ ⟨hc, hs, hL, hW, hS⟩
    · -- .ifCond .lt off, 3
      rename_i off
      obtain ⟨x, r, rfl, hs2⟩ := p1_ok hst
      obtain ⟨t, ht, hst⟩ := go_ok hs2
      refine lv_if_lt (tgt := t) hx hb hd ht (fun q => ?_) (fun q => ?_)
      · rw [if_pos q] at hst
        cases hst
        exact kk _ _ _ _ _ ⟨hc, hs, hL, hW, hS⟩
      · rw [if_neg q] at hst
        cases hst
        exact kk _ _ _ _ _ ⟨hc, hs, hL, hW, hS⟩
    · -- .if_icmp .lt off, 3
      rename_i off
      obtain ⟨x, y, r, rfl, hs2⟩ := p2_ok hst
      obtain ⟨t, ht, hst⟩ := go_ok hs2
      refine lv_icmp_lt (tgt := t) hx hb hd ht (fun q => ?_) (fun q => ?_)
      · rw [if_pos q] at hst
        cases hst
        exact kk _ _ _ _ _ ⟨hc, hs, hL, hW, hS⟩
      · rw [if_neg q] at hst
        cases hst
        exact kk _ _ _ _ _ ⟨hc, hs, hL, hW, hS⟩
    · -- .ifCond .ge off, 3
      rename_i off
      obtain ⟨x, r, rfl, hs2⟩ := p1_ok hst
      obtain ⟨t, ht, hst⟩ := go_ok hs2
      refine lv_if_ge (tgt := t) hx hb hd ht (fun q => ?_) (fun q => ?_)
      · rw [if_pos q] at hst
        cases hst
        exact kk _ _ _ _ _ ⟨hc, hs, hL, hW, hS⟩
      · rw [if_neg q] at hst
        cases hst
        exact kk _ _ _ _ _ ⟨hc, hs, hL, hW, hS⟩
    · -- .if_icmp .ge off, 3
      rename_i off
      obtain ⟨x, y, r, rfl, hs2⟩ := p2_ok hst
      obtain ⟨t, ht, hst⟩ := go_ok hs2
      refine lv_icmp_ge (tgt := t) hx hb hd ht (fun q => ?_) (fun q => ?_)
      · rw [if_pos q] at hst
        cases hst
        exact kk _ _ _ _ _ ⟨hc, hs, hL, hW, hS⟩
      · rw [if_neg q] at hst
        cases hst
        exact kk _ _ _ _ _ ⟨hc, hs, hL, hW, hS⟩
    · -- .ifCond .gt off, 3
      rename_i off
      obtain ⟨x, r, rfl, hs2⟩ := p1_ok hst
      obtain ⟨t, ht, hst⟩ := go_ok hs2
      refine lv_if_gt (tgt := t) hx hb hd ht (fun q => ?_) (fun q => ?_)
      · rw [if_pos q] at hst
        cases hst
        exact kk _ _ _ _ _ ⟨hc, hs, hL, hW, hS⟩
      · rw [if_neg q] at hst
        cases hst
        exact kk _ _ _ _ _ ⟨hc, hs, hL, hW, hS⟩
    · -- .if_icmp .gt off, 3
      rename_i off
      obtain ⟨x, y, r, rfl, hs2⟩ := p2_ok hst
      obtain ⟨t, ht, hst⟩ := go_ok hs2
      refine lv_icmp_gt (tgt := t) hx hb hd ht (fun q => ?_) (fun q => ?_)
      · rw [if_pos q] at hst
        cases hst
        exact kk _ _ _ _ _ ⟨hc, hs, hL, hW, hS⟩
      · rw [if_neg q] at hst
        cases hst
        exact kk _ _ _ _ _ ⟨hc, hs, hL, hW, hS⟩
    · -- .ifCond .le off, 3
      rename_i off
      obtain ⟨x, r, rfl, hs2⟩ := p1_ok hst
      obtain ⟨t, ht, hst⟩ := go_ok hs2
      refine lv_if_le (tgt := t) hx hb hd ht (fun q => ?_) (fun q => ?_)
      · rw [if_pos q] at hst
        cases hst
        exact kk _ _ _ _ _ ⟨hc, hs, hL, hW, hS⟩
      · rw [if_neg q] at hst
        cases hst
        exact kk _ _ _ _ _ ⟨hc, hs, hL, hW, hS⟩
    · -- .if_icmp .le off, 3
      rename_i off
      obtain ⟨x, y, r, rfl, hs2⟩ := p2_ok hst
      obtain ⟨t, ht, hst⟩ := go_ok hs2
      refine lv_icmp_le (tgt := t) hx hb hd ht (fun q => ?_) (fun q => ?_)
      · rw [if_pos q] at hst
        cases hst
        exact kk _ _ _ _ _ ⟨hc, hs, hL, hW, hS⟩
      · rw [if_neg q] at hst
        cases hst
        exact kk _ _ _ _ _ ⟨hc, hs, hL, hW, hS⟩
    · -- .ifnull off, 3
      rename_i off
      split at hst
      · cases hst
        exact lv_ifnull hx hb hd (kk _ _ _ _ _ ⟨hc, hs, hL, hW, hS⟩)
      · obtain ⟨t, ht, hst⟩ := go_ok hst
        cases hst
        exact lv_ifnullN hx hb hd ht (kk _ _ _ _ _ ⟨hc, hs, hL, hW, hS⟩)
      · cases hst
    · -- .ifnonnull off, 3
      rename_i off
      split at hst
      · obtain ⟨t, ht, hst⟩ := go_ok hst
        cases hst
        exact lv_ifnonnull hx hb hd ht (kk _ _ _ _ _ ⟨hc, hs, hL, hW, hS⟩)
      · cases hst
        exact lv_ifnonnullN hx hb hd (kk _ _ _ _ _ ⟨hc, hs, hL, hW, hS⟩)
      · cases hst
    · -- .goto off, 3
      rename_i off
      obtain ⟨t, ht, hst⟩ := go_ok hst
      cases hst
      exact lv_goto hx hb hd ht (kk _ _ _ _ _ ⟨hc, hs, hL, hW, hS⟩)
    · -- .tableswitch dflt lo hi offs, _
      rename_i dflt lo hi offs
      obtain ⟨x, r, rfl, hst⟩ := p1_ok hst
      rcases if_ok hst with ⟨hq, hst⟩ | ⟨hq, hst⟩
      · obtain ⟨t, ht, hst⟩ := go_ok hst
        cases hst
        exact lv_tableOut hx hb hd hq ht (kk _ _ _ _ _ ⟨hc, hs, hL, hW, hS⟩)
      · split at hst
        · rename_i off hoff
          obtain ⟨t, ht, hst⟩ := go_ok hst
          cases hst
          exact lv_tableIn hx hb hd (fun z => hq (Or.inl z)) (fun z => hq (Or.inr z)) hoff ht (kk _ _ _ _ _ ⟨hc, hs, hL, hW, hS⟩)
        · cases hst
    · -- .lookupswitch dflt ps, _
      rename_i dflt ps
      obtain ⟨x, r, rfl, hst⟩ := p1_ok hst
      obtain ⟨hq, hst⟩ := if_none hst
      obtain ⟨t, ht, hst⟩ := go_ok hst
      cases hst
      exact lv_lookup hx hb hd hq rfl ht (kk _ _ _ _ _ ⟨hc, hs, hL, hW, hS⟩)
    · -- .getfield k, 3
      rename_i k
      cases hsx : st with
      | nil => rw [hsx] at hst; cases hst
      | cons v0 r =>
      rw [hsx] at hst
      cases v0 <;> first | (cases hst; done) | skip
      rename_i a
      simp only at hst
      split at hst
      · rename_i c0 j c1 fs hf ha
        obtain ⟨⟨rfl, hc8, hj⟩, hs2⟩ := if_none hst
        clear hst
        split at hs2
        · rename_i v hv
          cases hs2
          obtain ⟨hf1, -, -⟩ := fl_ok hf
          obtain ⟨-, hcell⟩ := hW.cell ha (jn_o (by omega))
          rcases hcell with ⟨-, hOB, h13, hlen⟩ | ⟨h100, -⟩
          · refine va_get (D := gD G) (cl := vwCl) (ci := c0) (tys := []) (ws := [(gad G a, .inr (c0, fs.map (cv G)))]) (v := cv G v) hx hb hts (clW_in hc8) hown hKK.1 (fun k9 q9 h9 => ?_) 0 rfl (cl_at c0 hc8) j hj (hts _ hf1) (fun _ h9 => h9) (by rw [List.getElem?_map, hv]; rfl) hd (kk _ _ _ _ _ ⟨hc, hs, hL, hW, hS⟩)
            cases k9 with
            | zero => cases h9; exact ⟨_, cl_at c0 hc8, hOB⟩
            | succ k9 => cases h9
          · omega
        · cases hs2
      · rename_i v w hf ha
        obtain ⟨-, hcell⟩ := hW.cell ha (jn_o (by omega))
        rcases hcell with ⟨h8, -⟩ | ⟨-, k1, hk1, rfl, hfs⟩
        · omega
        cases hfs
        have e0 : gad G (1 + k1) = G.2.2.1 k1 := by
          simp [gad, show ¬ 13 ≤ 1 + k1 by omega, show 1 + k1 < 7 by omega]
        have e1 : cv G (.ref (7 + k1)) = .ref (G.2.2.2.1 k1) := by
          show Value.ref (gad G (7 + k1)) = _
          simp [gad, show ¬ 13 ≤ 7 + k1 by omega, show ¬ 7 + k1 < 7 by omega]
        obtain ⟨-, hs1, hs2, -⟩ := hEX.1.1 k1 hk1
        show W p l e R s m args below meth c H locs cells slots Q (F0 m pc arr (.ref (gad G (1 + k1)) :: r.map (cv G)))
        rw [e0]
        rcases if_ok hst with ⟨⟨ho1, rfl⟩, hs2⟩ | ⟨-, hs2⟩
        · cases hs2
          have h8 := kk _ _ _ _ _ ⟨hc, hs, hL, hW, hS⟩
          rw [List.map_cons, e1] at h8
          exact vk_getf hx hb hs2 hS hown (hts _ (by rw [ho1]; exact fs_value)) (fun _ h9 => h9) hd h8
        · obtain ⟨⟨ho1, rfl⟩, hs3⟩ := if_none hs2
          cases hs3
          exact vk_getf hx hb hs1 hS hown (hts _ (by rw [ho1]; exact fs_coder)) (fun _ h9 => h9) hd (kk _ _ _ _ _ ⟨hc, hs, hL, hW, hS⟩)
      · cases hst
    · -- .putfield k, 3
      rename_i k
      cases hsx : st with
      | nil => rw [hsx] at hst; cases hst
      | cons v r0 =>
      cases r0 with
      | nil => rw [hsx] at hst; cases hst
      | cons v0 r =>
      rw [hsx] at hst
      cases v0 <;> first | (cases hst; done) | skip
      rename_i a
      simp only at hst
      split at hst
      · rename_i c0 j c1 fs hf ha
        obtain ⟨⟨rfl, hc8, hj, hjl, hv, hfi⟩, hs2⟩ := if_none hst
        cases hs2
        obtain ⟨hf1, -, -⟩ := fl_ok hf
        obtain ⟨hah, hcell⟩ := hW.cell ha (jn_o (by omega))
        rcases hcell with ⟨-, hOB, h13, hlen⟩ | ⟨h100, -⟩
        · obtain ⟨cell, q2, q3, q4, q5⟩ := hOB
          obtain ⟨hSl, hfc, kC, hkC, hkind⟩ := hKK.1.1 c0 _ (cl_at c0 hc8)
          obtain ⟨cf, kf, fi, f, hi, hsl⟩ := hSl j hj
          have hty := cl_ty c0 hc8 j hj
          obtain ⟨hn, hfit⟩ := okv_ok (G := G) hv
          have hap := va_apart (own := oN (mR mi).1) hts (clW_in hc8) (clTy c0) (cl_ty c0 hc8) (cl_nm c0 hc8) hKK.1 (cl_at c0 hc8)
          have hlays := u_lays hts (clW_in hc8) hj
          obtain ⟨hst1, -, -⟩ := u_facts hfc hkC hlays hi
          obtain ⟨hn2, hfs2⟩ := u_fits hfc hkC hkind hlays hi hty hn hfit
          have hfin : hasFlag f.accessFlags Acc.final = false ∨ (m.cls = cf ∧ meth.name = "<init>") := by
            have hlay := hts _ (clW_in hc8 _ (u_in_lay hj))
            unfold u_lay at hlay
            cases hfl : (clT c0 j).2.2.2 with
            | false =>
              rw [if_neg (by rw [hfl]; decide)] at hlay
              exact Or.inl (u_store hfc hkC hkind hlay hi hty hn hfit).1
            | true =>
              have h9 : ((mR mi).2.1.name == "<init>" && (clT c0 j).1 == oN (mR mi).1) = true := by
                have h8 := hfi
                unfold fin at h8
                rw [hfl] at h8
                exact h8
              simp only [Bool.and_eq_true, beq_iff_eq] at h9
              refine Or.inr ⟨?_, hini h9.1⟩
              rw [if_pos hfl] at hlay
              obtain ⟨_, _, c', _, _, _, -, -, hf', -, -, -, hown2, -⟩ := Cond.laysFinal_spec hlay
              have e1 : c' = cf := by have := hi.symm.trans hf'; simp at this; exact this.1.symm
              rw [h9.2] at hown2
              rw [← e1]; exact Option.some.inj (hown.symm.trans hown2)
          have hlt : f.slot < cell.slots.size := by
            have := q5 j hj
            rw [← hsl] at this
            exact (Array.getElem?_eq_some_iff.mp this).1
          refine W.putf hx hb hown (hts _ hf1) hi hst1 hfin q2 (by rw [q4]; exact fun h => by cases h) hlt hn2 (by rw [q3, q4]; exact hfs2) rfl rfl hd ?_
          have hlt2 : gad G a < H.size := (Array.getElem?_eq_some_iff.mp q2).1
          have e1 : (H.setIfInBounds (gad G a) (cell.setSlot f.slot (cv G v)))[gad G a]? = some (cell.setSlot f.slot (cv G v)) := by simp [Array.getElem?_setIfInBounds, hlt2]
          have oq : ∀ q : Nat, q ≠ gad G a → (H.setIfInBounds (gad G a) (cell.setSlot f.slot (cv G v)))[q]? = H[q]? := fun q hq => by simp [Array.getElem?_setIfInBounds, Ne.symm hq]
          refine kk _ _ _ _ _ ⟨hc, hs, hL, hW.set hg h13 hah (by simp) oq (Or.inl ⟨hc8, ?_, h13, by rw [List.length_set]; exact hlen⟩), hS.put (by simp) oq (gad_A h13)⟩
          rw [List.map_set]
          have hlm : j < (fs.map (cv G)).length := by rw [List.length_map]; exact hjl
          refine t_OB.to (V := updV (vp_V (fs.map (cv G))) j (cv G v)) ⟨_, e1, q3, q4, ?_⟩ (fun k9 _ => vp_updV_set hlm (cv G v) k9)
          rw [hsl]
          exact t_set q5 hap hj (cv G v)
        · omega
      · cases hst
    · -- .getstatic k, 3
      rename_i k
      rcases if_ok hst with ⟨⟨ho1, rfl⟩, hs2⟩ | ⟨-, hs2⟩
      · cases hs2
        exact va_gets hx hb hEX.2.1 hS hown (hts _ (by rw [ho1]; exact fs_compact)) (fun _ h9 => h9) hd (kk _ _ _ _ _ ⟨hc, hs, hL, hW, hS⟩)
      · obtain ⟨⟨ho1, rfl⟩, hs3⟩ := if_none hs2
        cases hs3
        exact va_gets hx hb hEX.2.2 hS hown (hts _ (by rw [ho1]; exact fs_sio)) (fun _ h9 => h9) hd (kk _ _ _ _ _ ⟨hc, hs, hL, hW, hS⟩)
    · -- .iaload, 1
      cases hsx : st with
      | nil => rw [hsx] at hst; cases hst
      | cons v0 r0 =>
      cases r0 with
      | nil => rw [hsx] at hst; cases v0 <;> cases hst
      | cons v1 r =>
      rw [hsx] at hst
      cases v0 <;> first | (cases hst; done) | skip
      rename_i i
      cases v1 <;> first | (cases hst; done) | skip
      rename_i a
      simp only at hst
      split at hst
      · rename_i n f ha
        obtain ⟨hi, hst⟩ := if_none hst
        cases hst
        obtain ⟨cell, g1, g2, g3, g4, g5⟩ := (hW.cell ha jn_i).2.arr
        have hin0 : ¬ (i < 0 ∨ n ≤ i.toNatClampNeg) := vx_in hi
        have hin : ¬ (i < 0 ∨ cell.slots.size ≤ i.toNatClampNeg) := fun z => hin0 (z.imp id (fun q => Nat.le_trans g4.1 q))
        exact W.iald hx hb g1 g2 g3 hin (g5 _ (Nat.not_le.mp fun z => hin0 (Or.inr z))) rfl rfl hd (kk _ _ _ _ _ ⟨hc, hs, hL, hW, hS⟩)
      · rename_i n f ha
        obtain ⟨hi, hst⟩ := if_none hst
        cases hst
        obtain ⟨cell, g1, g2, g3, g4, g5⟩ := (hW.cell ha jn_i).2.arr
        have hin0 : ¬ (i < 0 ∨ n ≤ i.toNatClampNeg) := vx_in hi
        have hin : ¬ (i < 0 ∨ cell.slots.size ≤ i.toNatClampNeg) := fun z => hin0 (z.imp id (fun q => Nat.le_trans g4.1 q))
        exact W.iald hx hb g1 g2 g3 hin (g5 _ (Nat.not_le.mp fun z => hin0 (Or.inr z))) rfl rfl hd (kk _ _ _ _ _ ⟨hc, hs, hL, hW, hS⟩)
      · cases hst
    · -- .baload, 1
      cases hsx : st with
      | nil => rw [hsx] at hst; cases hst
      | cons v0 r0 =>
      cases r0 with
      | nil => rw [hsx] at hst; cases v0 <;> cases hst
      | cons v1 r =>
      rw [hsx] at hst
      cases v0 <;> first | (cases hst; done) | skip
      rename_i i
      cases v1 <;> first | (cases hst; done) | skip
      rename_i a
      simp only at hst
      split at hst
      · rename_i n f ha
        obtain ⟨hi, hst⟩ := if_none hst
        cases hst
        obtain ⟨cell, g1, g2, g3, g4, g5⟩ := (hW.cell ha jn_i).2.arr
        have hin0 : ¬ (i < 0 ∨ n ≤ i.toNatClampNeg) := vx_in hi
        have hin : ¬ (i < 0 ∨ cell.slots.size ≤ i.toNatClampNeg) := fun z => hin0 (z.imp id (fun q => Nat.le_trans g4.1 q))
        exact W.zald hx hb g1 g2 g3 hin (g5 _ (Nat.not_le.mp fun z => hin0 (Or.inr z))) rfl rfl hd (kk _ _ _ _ _ ⟨hc, hs, hL, hW, hS⟩)
      · rename_i n f ha
        obtain ⟨hi, hst⟩ := if_none hst
        cases hst
        obtain ⟨cell, g1, g2, g3, g4, g5⟩ := (hW.cell ha jn_i).2.arr
        have hin0 : ¬ (i < 0 ∨ n ≤ i.toNatClampNeg) := vx_in hi
        have hin : ¬ (i < 0 ∨ cell.slots.size ≤ i.toNatClampNeg) := fun z => hin0 (z.imp id (fun q => Nat.le_trans g4.1 q))
        exact W.bald hx hb g1 g2 g3 hin (g5 _ (Nat.not_le.mp fun z => hin0 (Or.inr z))) rfl rfl hd (kk _ _ _ _ _ ⟨hc, hs, hL, hW, hS⟩)
      · cases hst
    · -- .aaload, 1
      cases hsx : st with
      | nil => rw [hsx] at hst; cases hst
      | cons v0 r0 =>
      cases r0 with
      | nil => rw [hsx] at hst; cases v0 <;> cases hst
      | cons v1 r =>
      rw [hsx] at hst
      cases v0 <;> first | (cases hst; done) | skip
      rename_i i
      cases v1 <;> first | (cases hst; done) | skip
      rename_i a
      simp only at hst
      split at hst
      · rename_i n f ha
        obtain ⟨hi, hst⟩ := if_none hst
        cases hst
        obtain ⟨cA, kA, comp, g1, g2, -⟩ := (hW.cell ha jn_q).2
        have hin : ¬ (i < 0 ∨ n ≤ i.toNatClampNeg) := vx_in hi
        have hlt : i.toNatClampNeg < n := Nat.not_le.mp fun z => hin (Or.inr z)
        exact W.aald (v := cv G (va_rf (f i.toNatClampNeg))) (ty := .object RX6) hx hb g1 (g2 n _) rfl (fun q => by cases q) (by rw [arrV_size]; exact hin) (by rw [arrV_read _ _ hlt]) rfl rfl hd (kk _ _ _ _ _ ⟨hc, hs, hL, hW, hS⟩)
      · cases hst
    · -- .iastore, 1
      split at hst
      · rename_i x i a r
        split at hst
        · rename_i n f ha
          obtain ⟨hi, hst⟩ := if_none hst
          cases hst
          obtain ⟨hah, hcell⟩ := hW.cell ha jn_i
          obtain ⟨h13, cA, g1, g2⟩ := hcell.own (by decide)
          have hin : ¬ (i < 0 ∨ n ≤ i.toNatClampNeg) := vx_in hi
          refine W.iast hx hb g1 (g2 n _) (fun q => by cases q) (by rw [arrV_size]; exact hin) rfl rfl hd fun H1 e1 z oq => ?_
          refine kk _ _ _ _ _ ⟨hc, hs, hL, hW.set hg h13 hah z oq ⟨hcell.1, Or.inl ⟨by decide, h13, cA, ?_, g2⟩⟩, hS.put z oq (gad_A h13)⟩
          rw [e1, arrV_store]
          congr 2
          funext q
          by_cases hq : q = i.toNatClampNeg
          · subst hq
            simp [updV, upd]
          · simp [updV, upd, hq]
        · cases hst
      · cases hst
    · -- .bastore, 1
      split at hst
      · rename_i x i a r
        split at hst
        · rename_i n f ha
          obtain ⟨⟨hi, hx01⟩, hst⟩ := if_none hst
          cases hst
          obtain ⟨hah, hcell⟩ := hW.cell ha jn_i
          obtain ⟨h13, cA, g1, g2⟩ := hcell.own (by decide)
          have hin : ¬ (i < 0 ∨ n ≤ i.toNatClampNeg) := vx_in hi
          refine W.zast hx hb g1 (g2 n _) (fun q => by cases q) (by rw [arrV_size]; exact hin) rfl rfl hd fun H1 e1 z oq => ?_
          refine kk _ _ _ _ _ ⟨hc, hs, hL, hW.set hg h13 hah z oq ⟨hcell.1, Or.inl ⟨by decide, h13, cA, ?_, g2⟩⟩, hS.put z oq (gad_A h13)⟩
          rw [e1, arrV_store]
          congr 2
          funext q
          by_cases hq : q = i.toNatClampNeg
          · subst hq
            simp [updV, upd]
            rcases hx01 with rfl | rfl <;> rfl
          · simp [updV, upd, hq]
        · cases hst
      · cases hst
    · -- .aastore, 1
      split at hst
      · rename_i q i a r
        split at hst
        · rename_i n f fs ha hq
          obtain ⟨hi, hst⟩ := if_none hst
          cases hst
          obtain ⟨hah, cA, kA, comp, g1, g2, g3, g4, g5, h13, hn⟩ := hW.cell ha jn_q
          obtain ⟨-, hcq⟩ := hW.cell hq (jn_o (by omega))
          rcases hcq with ⟨-, ⟨cellV, v1, v2, v3, -⟩, -⟩ | ⟨h100, -⟩
          · have hcls := (hKK.1.1 5 _ (cl_at 5 (by omega))).2
            have hcomp : comp = (gD G).1 5 := Option.some.inj (g5.symm.trans hcls.1)
            subst hcomp
            obtain ⟨kC, hkC, -⟩ := hcls.2
            have hin : ¬ (i < 0 ∨ n ≤ i.toNatClampNeg) := vx_in hi
            refine W.aast hx hb g1 (fun q h => by cases h) (fun h => by cases h) g3 g4 rfl hkC ⟨fun z => hin (Or.inl z), by rw [arrV_size]; exact Nat.not_le.mp fun z => hin (Or.inr z)⟩ v1 (fun q h => by rw [v3] at h; cases h) (by rw [v2]; exact hkC) (by rw [v2]; exact va_assign hcls) rfl rfl hd fun H1 e1 z oq => ?_
            refine kk _ _ _ _ _ ⟨hc, hs, hL, hW.set hg h13 hah z oq ⟨cA, kA, _, ?_, g2, g3, g4, g5, h13, hn⟩, hS.put z oq (gad_A h13)⟩
            rw [e1, arrV_store]
            congr 2
            funext j
            by_cases hj : j = i.toNatClampNeg
            · subst hj
              simp [updV, va_up, va_rf, cv]
            · simp [updV, va_up, hj]
          · omega
        · cases hst
      · cases hst
    · -- .arraylength, 1
      split at hst
      · rename_i a r
        split at hst
        · rename_i t n f ha
          cases hst
          obtain ⟨cell, g1, g2, g3, g4, g5⟩ := (hW.cell ha jn_i).2.arr
          exact W.alen (n := Int32.ofNat n) hx hb g1 g2 g4.2 rfl rfl hd (kk _ _ _ _ _ ⟨hc, hs, hL, hW, hS⟩)
        · rename_i n f ha
          cases hst
          obtain ⟨cA, kA, comp, g1, g2, -⟩ := (hW.cell ha jn_q).2
          exact W.alen (n := Int32.ofNat n) hx hb g1 (g2 n _) (by rw [arrV_size]) rfl rfl hd (kk _ _ _ _ _ ⟨hc, hs, hL, hW, hS⟩)
        · cases hst
      · cases hst
    · -- .new k, 3
      rename_i k
      split at hst
      · rename_i c0 n hn
        obtain ⟨⟨hc8, rfl⟩, hs2⟩ := if_none hst
        cases hs2
        obtain ⟨hn1, hn2, hn3⟩ := nw_ok hn
        have hKn := hKK.1.1 c0 _ (cl_at c0 hc8)
        have r1 : h.1 + 1 ≤ R.cells + n0 := hr1
        have r2 : h.2.1 + clN c0 ≤ R.slots + s0 := hr2
        refine W.newcK hx hb hown (hts _ hn1) (hts _ hn2) (hts _ hn3) rfl hd (by omega) (by omega) hKn.2.1 rfl fun H1 kC hkC e1 z1 o1 => ?_
        have h7 := kk H1 locs (cells + 1) (slots + clN c0) arr ⟨by show cells + 1 + n0 = h.1 + 1; omega, by show slots + clN c0 + s0 = h.2.1 + clN c0; omega, hL, hW.new hg z1 o1 (Or.inl ⟨hc8, ?_, hW.2.1, by simp [dfl]⟩), ⟨Nat.le_trans hS.1 (by omega), fun q h1 h2 => (o1 q (Nat.lt_of_lt_of_le h1 hS.1)).trans (hS.2.1 q h1 h2), hS.2.2⟩⟩
        · have e9 : cv G (.ref h.1) = .ref H.size := by show Value.ref (gad G h.1) = _; rw [hW.top]
          rw [List.map_cons, e9] at h7
          exact h7
        · rw [hW.top]
          refine (u_born (clTy c0) hts (clW_in hc8) hKn hkC e1 (cl_ty c0 hc8)).to (fun j hj => ?_)
          simp only [vp_V, dfl, List.map_map, List.getD_eq_getElem?_getD, List.getElem?_map]
          rw [List.getElem?_range hj]
          show defaultValue (clTy c0 j) = cv G (defaultValue (clTy c0 j))
          cases clTy c0 j <;> rfl
      · cases hst
    · -- .newarray .int, 2
      obtain ⟨x, r, rfl, hs2⟩ := p1_ok hst
      obtain ⟨⟨hx0, hx1⟩, hs3⟩ := if_none hs2
      cases hs3
      have hx2 : ¬ x < 0 := fun z => by
        have := Int32.lt_iff_toInt_lt.mp z
        simp at this
        omega
      have hx3 : x.toNatClampNeg = x.toInt.toNat := rfl
      have hx4 : x.toNatClampNeg ≤ 100000 := by omega
      have r1 : h.1 + 1 ≤ R.cells + n0 := hr1
      have r2 : h.2.1 + x.toNatClampNeg ≤ R.slots + s0 := hr2
      refine va_newaK (atype := .int) hx hb (hts _ aw_int) rfl hd rfl hx2 rfl (by show x.toNatClampNeg * componentBytes .int ≤ _; simp [componentBytes]; omega) (by omega) (by omega) rfl fun H1 cA e1 z1 o1 hAr _ => ?_
      have h7 := kk H1 locs (cells + 1) (slots + x.toNatClampNeg) arr ⟨by show cells + 1 + n0 = h.1 + 1; omega, by show slots + x.toNatClampNeg + s0 = h.2.1 + x.toNatClampNeg; omega, hL, hW.new hg z1 o1 ⟨by omega, Or.inl ⟨by decide, hW.2.1, cA, by rw [hW.top]; exact e1, hAr⟩⟩, ⟨Nat.le_trans hS.1 (by omega), fun q h1 h2 => (o1 q (Nat.lt_of_lt_of_le h1 hS.1)).trans (hS.2.1 q h1 h2), hS.2.2⟩⟩
      have e9 : cv G (.ref h.1) = .ref H.size := by show Value.ref (gad G h.1) = _; rw [hW.top]
      rw [List.map_cons, e9] at h7
      exact h7
    · -- .newarray .boolean, 2
      obtain ⟨x, r, rfl, hs2⟩ := p1_ok hst
      obtain ⟨⟨hx0, hx1⟩, hs3⟩ := if_none hs2
      cases hs3
      have hx2 : ¬ x < 0 := fun z => by
        have := Int32.lt_iff_toInt_lt.mp z
        simp at this
        omega
      have hx3 : x.toNatClampNeg = x.toInt.toNat := rfl
      have hx4 : x.toNatClampNeg ≤ 100000 := by omega
      have r1 : h.1 + 1 ≤ R.cells + n0 := hr1
      have r2 : h.2.1 + x.toNatClampNeg ≤ R.slots + s0 := hr2
      refine va_newaK (atype := .boolean) hx hb (hts _ aw_boolean) rfl hd rfl hx2 rfl (by show x.toNatClampNeg * componentBytes .boolean ≤ _; simp [componentBytes]; omega) (by omega) (by omega) rfl fun H1 cA e1 z1 o1 hAr _ => ?_
      have h7 := kk H1 locs (cells + 1) (slots + x.toNatClampNeg) arr ⟨by show cells + 1 + n0 = h.1 + 1; omega, by show slots + x.toNatClampNeg + s0 = h.2.1 + x.toNatClampNeg; omega, hL, hW.new hg z1 o1 ⟨by omega, Or.inl ⟨by decide, hW.2.1, cA, by rw [hW.top]; exact e1, hAr⟩⟩, ⟨Nat.le_trans hS.1 (by omega), fun q h1 h2 => (o1 q (Nat.lt_of_lt_of_le h1 hS.1)).trans (hS.2.1 q h1 h2), hS.2.2⟩⟩
      have e9 : cv G (.ref h.1) = .ref H.size := by show Value.ref (gad G h.1) = _; rw [hW.top]
      rw [List.map_cons, e9] at h7
      exact h7
    · -- .anewarray k, 3
      rename_i k
      obtain ⟨x, r, rfl, hs2⟩ := p1_ok hst
      split at hs2
      · rename_i hn
        obtain ⟨⟨hx0, hx1⟩, hs3⟩ := if_none hs2
        cases hs3
        have hx2 : ¬ x < 0 := fun z => by
          have := Int32.lt_iff_toInt_lt.mp z
          simp at this
          omega
        have hx3 : x.toNatClampNeg = x.toInt.toNat := rfl
        have hx4 : x.toNatClampNeg ≤ 100000 := by omega
        have r1 : h.1 + 1 ≤ R.cells + n0 := hr1
        have r2 : h.2.1 + x.toNatClampNeg ≤ R.slots + s0 := hr2
        refine W.anew hx hb hown (hts _ (an_ok hn).1) (va_AO.use hKK.2.2.1) rfl hd rfl hx2 (by omega) (by omega) (by omega) fun cA kA comp f1 f2 f3 f4 => ?_
        generalize hH1 : H.push ({ cls := cA, slots := Array.replicate x.toNatClampNeg .null, vm := .none } : Cell) = H1
        have z1 : H1.size = H.size + 1 := by rw [← hH1, Array.size_push]
        have e1 : H1[H.size]? = some (arrV cA x.toNatClampNeg (fun _ => .null)) := by rw [← hH1, Array.getElem?_push_size, ← arrV_new]
        have o1 : ∀ q : Nat, q < H.size → H1[q]? = H[q]? := fun q hq => by rw [← hH1, Array.getElem?_push, if_neg (Nat.ne_of_lt hq)]
        have hAr : ArrOfT s cA (.object RX6) := fun N z => ⟨(fun k h => by cases h), kA, f2, comp, f3⟩
        have h7 := kk H1 locs (cells + 1) (slots + x.toNatClampNeg) arr ⟨by show cells + 1 + n0 = h.1 + 1; omega, by show slots + x.toNatClampNeg + s0 = h.2.1 + x.toNatClampNeg; omega, hL, hW.new hg z1 o1 ⟨cA, kA, comp, by rw [hW.top]; exact e1, hAr, f2, f3, f4, hW.2.1, by omega⟩, ⟨Nat.le_trans hS.1 (by omega), fun q h1 h2 => (o1 q (Nat.lt_of_lt_of_le h1 hS.1)).trans (hS.2.1 q h1 h2), hS.2.2⟩⟩
        have e9 : cv G (.ref h.1) = .ref H.size := by show Value.ref (gad G h.1) = _; rw [hW.top]
        rw [List.map_cons, e9] at h7
        exact h7
      · cases hs2
    · -- .invokestatic k, 3
      rename_i k
      split at hst
      · rename_i x8 hm
        unfold arc at hst
        split at hst
        · rename_i n dp a1 sp a0 r
          split at hst
          · rename_i n0a f n1a g ha0 ha1
            obtain ⟨⟨h1a, h2a, h3a, h4a, h5a, hk8, hd0⟩, hs2⟩ := if_none hst
            have hk9 := stk_cv ho r
            cases hs2
            obtain ⟨pp, -, hw⟩ := ml_ok hm
            obtain ⟨hah, hc1⟩ := hW.cell ha1 jn_i
            obtain ⟨h13, cA1, g1, g2⟩ := hc1.own (by decide)
            obtain ⟨-, hc0⟩ := hW.cell ha0 jn_i
            obtain ⟨-, cA0, g3, g4⟩ := hc0.own (by decide)
            refine ri_copy hx hb (by rw [hml]; exact hL.1.1.symm) hown (hts _ (atT_in hw)) (hts _ sy_nat) (hts _ sy_stat) (hts _ sy_ini) g3 g1 g4 g2 (i32_nn h1a) (i32_nn h2a) (i32_nn h3a) (by have := i32_tn h1a; have := i32_tn h3a; omega) (by have := i32_tn h2a; have := i32_tn h3a; omega) (by omega) (by rw [show nativeFrameWords "java/lang/System" "arraycopy" 5 = 7 from by decide +kernel]; unfold stk at hk9 hk8; omega) hd fun H1 locs1 e1 z1 oq hlc => ?_
            exact kk _ _ _ _ _ ⟨hc, hs, hL, hW.set hg h13 hah z1 oq ⟨hc1.1, Or.inl ⟨by decide, h13, cA1, e1, g2⟩⟩, ⟨by rw [z1]; exact hS.1, fun q q1 q2 => (oq q (fun z => q2 (by rw [z]; exact gad_A h13))).trans (hS.2.1 q q1 q2), fun q hq => by
              rcases hlc q hq with h | h
              · exact hS.2.2 q h
              · rw [h]; exact gad_A h13⟩⟩
          · cases hst
        · cases hst
      · rename_i x8 hm
        obtain ⟨x, y, r, rfl, hs2⟩ := p2_ok hst
        obtain ⟨⟨hk8, hd0⟩, hs3⟩ := if_none hs2
        cases hs3
        have hk9 := stk_cv ho r
        have hw := ml_ok hm
        obtain ⟨pp, -, hw⟩ := hw
        exact va_mmax hx hb (by rw [hml]; exact hL.1.1.symm) hown (hts _ (atT_in hw)) (hts _ mx_stat) (hts _ mx_ini) (hts _ mx_code) (by omega) (by unfold stk at hk9 hk8; omega) (by omega) (by omega) hd (kk _ _ _ _ _ ⟨hc, hs, hL, hW, hS⟩)
      · rename_i x8 hm
        obtain ⟨x, y, r, rfl, hs2⟩ := p2_ok hst
        obtain ⟨⟨hk8, hd0⟩, hs3⟩ := if_none hs2
        cases hs3
        have hk9 := stk_cv ho r
        have hw := ml_ok hm
        obtain ⟨pp, -, hw⟩ := hw
        exact va_mmin hx hb (by rw [hml]; exact hL.1.1.symm) hown (hts _ (atT_in hw)) (hts _ mn_stat) (hts _ mx_ini) (hts _ mn_code) (by omega) (by unfold stk at hk9 hk8; omega) (by omega) (by omega) hd (kk _ _ _ _ _ ⟨hc, hs, hL, hW, hS⟩)
      · exact absurd hst (inv_n _ _ _ _ _ _ _ _ _)
      · exact absurd hst (inv_n _ _ _ _ _ _ _ _ _)
      · cases hst
    · -- .invokevirtual k, 3
      rename_i k
      split at hst
      · exact absurd hst (inv_n _ _ _ _ _ _ _ _ _)
      · cases hst
    · -- .invokespecial k, 3
      rename_i k
      split at hst
      · rename_i x9 hm
        split at hst
        · rename_i a r
          obtain ⟨⟨hk8, hd0⟩, hs2⟩ := if_none hst
          have hk9 := stk_cv ho r
          cases hs2
          obtain ⟨pp, -, hw⟩ := ml_ok hm
          refine W.objInit hx hb hown (hts _ (atT_in hw)) (hts _ ob_inst) (hts _ ob_code) rfl (by rw [hml]; exact hL.1.1) rfl hd (by omega) (by show 2 * 0 + _ + 12 ≤ _; unfold stk at hk9 hk8; omega) ?_
          exact kk _ _ _ _ _ ⟨hc, hs, hL, hW, hS⟩
        · cases hst
      · exact absurd hst (inv_n _ _ _ _ _ _ _ _ _)
      · exact absurd hst (inv_n _ _ _ _ _ _ _ _ _)
      · cases hst
    · -- .ireturn, 1
      split at hst
      · obtain ⟨-, hst⟩ := if_none hst
        cases hst
      · cases hst
    · -- .lreturn, 1
      split at hst
      · cases hst
      · cases hst
    · -- .areturn, 1
      split at hst
      · cases hst
      · cases hst
    · -- .return_, 1
      split at hst <;> cases hst
    · cases hst
end SN
