/-! the induction: calls -/
section CL
variable {p : Program} {l : Launch} {e : Env} {R : Room} {s : State} {m : MethodId} {args : Array Value} {below : List Frame} {meth : Method} {c : Code} {G : Gp} {Q : State → Prop} {H : Heap} {locs : List Loc} {cells slots mc ms : Nat} {arr : Array Slot} {pc : Nat}
theorem ri_call {r1 : Option Value} {h1 : Hp} {a : Array Value} {st0 rest : List Value} (hr : va_Run p l e R s m args below meth c H locs cells slots mc ms (F0 m pc arr st0) rest (QcM G r1 h1 a) (gA G)) (hS : va_S (gA G) s.heap H locs)
    (kk : ∀ (H1 : Heap) (locs1 : List Loc), Wd G s h1 H1 → va_S (gA G) s.heap H1 locs1 → W p l e R s m args below meth c H1 locs1 (cells + mc) (slots + ms) Q (F0 m (pc + 3) arr ((r1.map (cv G)).toList ++ rest))) : W p l e R s m args below meth c H locs cells slots Q (F0 m pc arr st0) := by
  intro T hT X
  obtain ⟨v, st₀, t, T', L, h0, X', hL, e1, e2, ⟨hv, hw, hz, hk⟩, st⟩ := hr T hT X
  cases hv
  rw [h0] at hz hk
  have hal : s.vm.Alike t.vm := by rw [← e2]; exact X'.warmed.alike
  obtain ⟨t2, a1, b1⟩ := kk T'.heap (locs ++ L) (by rw [e1]; exact hw.moved hal.symm)
    ⟨Nat.le_trans hS.1 (by rw [e1]; exact hz), fun q h1 h2 => by rw [e1, hk q (Nat.lt_of_lt_of_le h1 hS.1) h2]; exact hS.2.1 q h1 h2, fun q hq => by
      rcases List.mem_append.mp hq with h | h
      · exact hS.2.2 q h
      · exact hL q h⟩ T' rfl X'
  exact ⟨t2, st t2 a1, b1⟩
theorem ri_recv {h : Hp} {a c0 : Nat} {fs : List Value} (hKK : KK G s) (hEX : EX G s H) (hW : Wd G s h H) (ha : h.2.2 a = .inr (.inr (c0, fs))) {C : String} (hc : c0 = 100 ∧ C = "java/lang/String" ∨ c0 < 8 ∧ clR c0 = C) : ∃ cellB : Cell, H[gad G a]? = some cellB ∧ cellB.vm.isStatics = false ∧ s.vm.findClass C = some cellB.cls := by
  obtain ⟨-, hcell⟩ := hW.cell ha (jn_o (by omega))
  rcases hc with ⟨rfl, rfl⟩ | ⟨h8, rfl⟩
  · rcases hcell with ⟨h9, -⟩ | ⟨-, k, hk, rfl, -⟩
    · omega
    · obtain ⟨⟨cell, g1, g2, g3, -⟩, -⟩ := hEX.1.1 k hk
      have e0 : gad G (1 + k) = G.2.2.1 k := by
        simp [gad, show ¬ 13 ≤ 1 + k by omega, show 1 + k < 7 by omega]
      rw [e0]
      exact ⟨cell, g1, g2, g3⟩
  · rcases hcell with ⟨-, ⟨cell, q1, q2, q3, -⟩, -⟩ | ⟨h9, -⟩
    · exact ⟨cell, q1, by rw [q3]; rfl, by rw [q2]; exact (hKK.1.1 c0 _ (cl_at c0 h8)).2.1⟩
    · omega
end CL
set_option maxRecDepth 100000 in
theorem ctor_ok : ((mtab.zip mpos).all fun e => e.2.1 != 2 || decide (e.1.2.2.2.2.1 = none)) = true := by decide +kernel
theorem ctor_ret {j : Nat} (hj : j < 221) (hk : (mpos.getD j (7, 0, 0, 0, 0)).1 = 2) : (mR j).2.2.2.2.1 = none := by
  have h1 : j < mtab.length := by rw [mtab_len.1]; omega
  have h2 : j < mpos.length := by rw [mtab_len.2]; exact hj
  have hm : (mR j, mpos.getD j (7, 0, 0, 0, 0)) ∈ mtab.zip mpos := by
    refine List.mem_of_getElem? (i := j) ?_
    simp only [List.getElem?_zip_eq_some, mR, List.getD_eq_getElem?_getD]
    rw [List.getElem?_eq_getElem h1, List.getElem?_eq_getElem h2]
    exact ⟨rfl, rfl⟩
  have h := List.all_eq_true.mp ctor_ok _ hm
  simp only [Bool.or_eq_true, bne_iff_ne, ne_eq, decide_eq_true_eq] at h
  rcases h with h | h
  · exact absurd hk h
  · exact h
theorem rl_map {G : Gp} (r : Option Value) (st : List Value) : (rl r st).map (cv G) = (r.map (cv G)).toList ++ st.map (cv G) := by
  cases r <;> rfl
set_option maxHeartbeats 4000000 in
theorem sim (l : Launch) (G : Gp) (hg : gOK G) (ho : ovOK G) : ∀ n, simP l G n := by
  intro n
  induction n with
  | zero => intro d mi pc ls st h r h2 e; cases e
  | succ n IH =>
    intro d mi pc ls st h r h2 hex p e R s m args below meth c n0 s0 Q C r1 r2 hret H locs cells slots arr V
    unfold ex at hex
    split at hex
    · rename_i pc' ls' st' h' hs
      have hm := ex_mono _ _ _ _ _ _ _ _ _ hex
      exact sim_n C hs (Nat.le_trans hm.1 r1) (Nat.le_trans hm.2 r2) V (fun H1 locs1 cells1 slots1 arr1 V1 => IH _ _ _ _ _ _ _ _ hex C r1 r2 hret _ _ _ _ _ V1)
    · rename_i j as pc' ls' st' h' hs
      obtain ⟨I, len, hd, hst⟩ := stp_ok hs
      obtain ⟨rfl, k, kind, hml, rfl, rfl, rfl, hd0, h45, hwrd, hstk, hcall⟩ := stI_call hst
      split at hex
      · rename_i q1 h1 hcx
        have hm1 := ex_mono _ _ _ _ _ _ _ _ _ hcx
        have hm2 := ex_mono _ _ _ _ _ _ _ _ _ hex
        obtain ⟨hx, hb, hnl, hown, hts, hKK, hEX, hini, hdf, hdl, -, -⟩ := id C
        obtain ⟨hc, hs0, hL, hW, hS⟩ := id V
        obtain ⟨pp, -, hmlok⟩ := ml_ok hml
        have hk6 : kind < 6 := by
          rcases hcall with ⟨h | h, -⟩ | ⟨a, as0, -, -, -, ⟨h, -⟩ | ⟨h | h, -⟩⟩ <;> omega
        obtain ⟨hj, hkp, hlink, hnest⟩ := ml_facts hk6 hmlok
        obtain ⟨f1, f2, f3, f4, f5, f6, f7, f8, f9⟩ := mR_facts hj
        have hM := met_of (l := l) hg ho IH hj hwrd hcx
        have hE1 : EX G s H := hEX.kept hS.2.1
        have hR : (rmM (d - 1) (h1.1 - h'.1) (h1.2.1 - h'.2.1)).frames + 1 ≤ R.frames ∧ 8 + ((mR j).2.2.2.1 + 11) + (rmM (d - 1) (h1.1 - h'.1) (h1.2.1 - h'.2.1)).locals ≤ R.locals := by
          refine ⟨?_, ?_⟩
          · show d - 1 + 1 ≤ R.frames; omega
          · show 8 + ((mR j).2.2.2.1 + 11) + 64 * (d - 1) ≤ R.locals; omega
        have hroom : cells + (h1.1 - h'.1) ≤ R.cells ∧ slots + (h1.2.1 - h'.2.1) ≤ R.slots := by
          have a1 := hm1.1; have a2 := hm1.2; have a3 := hm2.1; have a4 := hm2.2
          constructor <;> omega
        have hpre : ∀ U : State, U.heap = H → s.WarmedH U.vm → PcM G h' as ((as.map (cv G)).toArray) U := fun U hU hW2 => ⟨rfl, hKK.warm hW2, by rw [hU]; exact hE1.moved hW2.alike, by rw [hU]; exact hW.moved hW2.alike⟩
        have hdesc := f8
        have hstk2 : 2 * (F0 m pc arr (st.map (cv G))).monitorRoom + ((st'.map (cv G)).map fun v => v.category).sum ≤ 8 := lv_room (by have := stk_cv ho st'; unfold stk at this hstk; omega)
        have hfin : ∀ (H1 : Heap) (locs1 : List Loc), Wd G s h1 H1 → va_S (gA G) s.heap H1 locs1 → W p l e R s m args below meth c H1 locs1 (cells + (h1.1 - h'.1)) (slots + (h1.2.1 - h'.2.1)) Q (F0 m (pc + 3) arr ((q1.map (cv G)).toList ++ st'.map (cv G))) := by
          intro H1 locs1 hW1 hS1
          rw [← rl_map]
          refine IH _ _ _ _ _ _ _ _ hex C r1 r2 hret _ _ _ _ _ ⟨?_, ?_, hL, hW1, hS1⟩
          · have a1 := hm1.1; omega
          · have a1 := hm1.2; omega
        have hfix : CallFix p m c (mR mi).2.2.1 (mR mi).2.2.2.1 s args tblG (oN (mR mi).1) := ⟨hx, hb, hnl, hown, hts⟩
        have hgood0 : GoodIn tblG (wsM j) := wsM_good (l := []) hj (fun _ h => absurd h List.not_mem_nil)
        have hnst : ¬ kind < 3 → va_Nw (.methodLinkNest (oN (mR mi).1) k (mR j).2.1 "SieveGuests") s := fun q => hKK.2.1 _ (hnest q)
        rcases hcall with ⟨hkind, rfl, rfl, hlen⟩ | ⟨a, as0, rfl, rfl, hlen, ⟨rfl, rfl, c0, fs, ha, hcc⟩ | ⟨hkind, rfl⟩⟩
        · have hst0 : ((as.reverse ++ st').map (cv G)) = (as.map (cv G)).reverse ++ st'.map (cv G) := by rw [List.map_append, List.map_reverse]
          have hpS : PreS s H (PcM G h' as) (as.map (cv G)) := ⟨PcM_blind G h' as, hpre⟩
          have hln : (as.map (cv G)).length = (mR j).2.2.2.2.2 := by rw [List.length_map]; exact hlen
          rcases hkind with rfl | rfl
          · have hcw : CallB R s args (oN (mR mi).1) k (mR j).2.1 (mR j).2.2.1 (mR j).2.2.2.1 (mR j).2.2.2.2.1 (wsM j) (rmM (d - 1) (h1.1 - h'.1) (h1.2.1 - h'.2.1)) (h1.1 - h'.1) (h1.2.1 - h'.2.1) (mR j).2.2.2.2.2 ∧ (Cond.static (mR j).2.1).before args s = true :=
              ⟨callB_of _ hts hgood0 rfl rfl rfl (hts _ f1) (hts _ (hlink (by omega))) ⟨f7.1, f7.2, f8⟩ hR, hts _ (f2 (by omega))⟩
            exact ri_call (va_runS (g := F0 m pc arr _) hfix hM hcw hpS rfl hln hL.1.1 hst0 hstk2 hd hroom) hS hfin
          · have hcw : va_CN R s args (oN (mR mi).1) k (mR j).2.1 "SieveGuests" (mR j).2.2.1 (mR j).2.2.2.1 (mR j).2.2.2.2.1 (wsM j) (rmM (d - 1) (h1.1 - h'.1) (h1.2.1 - h'.2.1)) (h1.1 - h'.1) (h1.2.1 - h'.2.1) (mR j).2.2.2.2.2 ∧ (Cond.static (mR j).2.1).before args s = true ∧ True :=
              ⟨va_cnB _ hts hgood0 rfl rfl rfl (hnst (by omega)) (hts _ f1) ⟨f7.1, f7.2, f8⟩ hR, hts _ (f2 (by omega)), trivial⟩
            exact ri_call (va_runSN (g := F0 m pc arr _) hfix hM hcw hpS rfl hln hL.1.1 hst0 hstk2 hd hroom) hS hfin
        · have hst0 : ((as0.reverse ++ .ref a :: st').map (cv G)) = (as0.map (cv G)).reverse ++ .ref (gad G a) :: st'.map (cv G) := by rw [List.map_append, List.map_reverse]; rfl
          have hln : (as0.map (cv G)).length = (mR j).2.2.2.2.2 := by rw [List.length_map]; exact hlen
          have hpV : PreV s H (mR j).2.1.cls (gad G a) (PcM G h' (.ref a :: as0)) (as0.map (cv G)) := ⟨PcM_blind G h' _, ri_recv hKK hE1 hW ha hcc, hpre⟩
          have hcw : CallW R s args (oN (mR mi).1) (mR j).2.1.cls k (mR j).2.1 (mR j).2.2.1 (mR j).2.2.2.1 (mR j).2.2.2.2.1 (wsM j) (rmM (d - 1) (h1.1 - h'.1) (h1.2.1 - h'.2.1)) (h1.1 - h'.1) (h1.2.1 - h'.2.1) (mR j).2.2.2.2.2 :=
            cwV (mR j).2.2.2.2.2 hts (wsM_good hj (fun w hw => by
              simp only [List.mem_cons, List.not_mem_nil, or_false] at hw
              rcases hw with rfl | rfl | rfl | rfl
              · exact hlink (by omega)
              · exact f3 (by omega)
              · exact f4 (by omega)
              · exact f1)) rfl rfl rfl ⟨rfl, f7.1, f7.2, f8⟩ hR
          exact ri_call (va_runV (g := F0 m pc arr _) hfix hM hcw hpV rfl hln hL.1.1 hst0 hstk2 hd hroom) hS hfin
        · have hst0 : ((as0.reverse ++ .ref a :: st').map (cv G)) = (as0.map (cv G)).reverse ++ .ref (gad G a) :: st'.map (cv G) := by rw [List.map_append, List.map_reverse]; rfl
          have hln : (as0.map (cv G)).length = (mR j).2.2.2.2.2 := by rw [List.length_map]; exact hlen
          have hpS : PreS s H (PcM G h' (.ref a :: as0)) (.ref (gad G a) :: as0.map (cv G)) := ⟨PcM_blind G h' _, hpre⟩
          have hret0 : (mR j).2.2.2.2.1 = none := by
            rcases hkind with rfl | rfl
            · exact ctor_ret hj (by omega)
            · exact ctor_ret hj (by omega)
          rcases hkind with rfl | rfl
          · have hcw : CallB R s args (oN (mR mi).1) k (mR j).2.1 (mR j).2.2.1 (mR j).2.2.2.1 none (wsM j) (rmM (d - 1) (h1.1 - h'.1) (h1.2.1 - h'.2.1)) (h1.1 - h'.1) (h1.2.1 - h'.2.1) (mR j).2.2.2.2.2 ∧ (mR j).2.1.name = "<init>" ∧ (Cond.instanceMethod (mR j).2.1).before args s = true :=
              ⟨callB_of _ hts hgood0 (by rw [wsM, hret0]) rfl rfl (hts _ f1) (hts _ (hlink (by omega))) ⟨f7.1, f7.2, f8⟩ hR, f9 (by omega), hts _ (f3 (by omega))⟩
            exact ri_call (va_runI (g := F0 m pc arr _) hfix hM hcw hpS rfl hln hL.1.1 hst0 hstk2 hd hroom) hS hfin
          · have hcw : va_CN R s args (oN (mR mi).1) k (mR j).2.1 "SieveGuests" (mR j).2.2.1 (mR j).2.2.2.1 none (wsM j) (rmM (d - 1) (h1.1 - h'.1) (h1.2.1 - h'.2.1)) (h1.1 - h'.1) (h1.2.1 - h'.2.1) (mR j).2.2.2.2.2 ∧ (mR j).2.1.name = "<init>" ∧ (Cond.instanceMethod (mR j).2.1).before args s = true :=
              ⟨va_cnB _ hts hgood0 (by rw [wsM, hret0]) rfl rfl (hnst (by omega)) (hts _ f1) ⟨f7.1, f7.2, f8⟩ hR, f9 (by omega), hts _ (f3 (by omega))⟩
            exact ri_call (va_runIN (g := F0 m pc arr _) hfix hM hcw hpS rfl hln hL.1.1 hst0 hstk2 hd hroom) hS hfin
      · cases hex
    · rename_i rh hs
      obtain ⟨I, len, hd, hst⟩ := stp_ok hs
      obtain ⟨q1, h1⟩ := rh
      obtain ⟨rfl, rfl, hrt⟩ := stI_ret hst
      cases hex
      obtain ⟨hc, hs0, hL, hW, hS⟩ := V
      exact hret _ _ _ _ _ _ _ I hc hs0 hW hS hd hrt
    · cases hex
