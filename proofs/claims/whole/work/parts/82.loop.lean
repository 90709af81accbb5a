/-! THE CLAIM OUT OF ONE WALK OF THE LAW'S BODY. Your part is whole_start (and what it stands on); all else here is the same for every law, but numbers. -/
def R_law : String := "DeclareStatesLaw"
def lw_P (b : Addr) (xs : List Int32) (args : Array Value) (s : State) : Prop := args = #[.ref b] ∧ s.IntsAt b xs ∧ xs.length ≤ 2560 ∧ (Jvm.Cond.and given_1 narrow_1).before args s = true
def lw_Q (_ : Array Value) (s : State) (o : Outcome) (t : State) : Prop := o = .returned (some (.int 1)) ∧ Framed s o t [] 601024 7293034
def lw_Z (below : List Frame) (a : Array Value) (s : State) : State → Prop := fun t => ∃ o, t.status = .running ∧ Ended t below o ∧ lw_Q a s o t
/-- the law's own end, with 1 on the stack, nothing written that was there before, its room as the claim has it -/
theorem lw_ret {p : Program} {l : Launch} {e : Env} {s : State} {m : MethodId} {below : List Frame} {meth : Method} {c : Code} {b : Nat} (hx : p.tables.exec = Jvm.exec) (hb : c.code = code) (hr : meth.sig.returnType = ret) (hlocks : meth.locks = false) {pc : Nat} {H : Heap} {ls : Array Slot} (hdg : decode code pc = .ok (.ireturn, 1)) : W p l e room_1 s m #[Value.ref b] below meth c H [] 601024 7293034 (lw_Z below #[Value.ref b] s) (F0 m pc ls [.int 1]) := by
  intro T hT X
  obtain ⟨fs, hret, hrun, hended, hW, hframe⟩ := X.leave (v := some (.int 1)) (hlocks := hlocks) (fun h => by rw [hr] at h; cases h)
  have hmeth' : T.vm.method? m = some meth := X.method'
  refine ⟨T.setFrames fs, ?_, .returned (some (.int 1)), hrun, hended, rfl, ⟨_, rfl⟩, hW, hframe⟩
  jvm_step X.here [X.here.top, hx, hb, hdg, hmeth', hr, ret, narrow_b1]
  (try refine ⟨rfl, ?_⟩); (try refine ⟨rfl, ?_⟩)
  first | (intro acts; rw [hret _ acts rfl rfl rfl]) | rw [hret _ _ rfl rfl rfl]
  exact Steps.refl _
/-- what holds at the law's entry: the machine, the code, the tables' words (any of lw_tbl by 'hts w (by decide +kernel)'), the script of L ints xs at the cell b, what the Statement gives of the start (any of its parts by flat_of_before) -/
def lw_At (p : Program) (s : State) (m : MethodId) (meth : Method) (c : Code) (b L : Nat) (xs : Nat → Int32) : Prop :=
  p.tables.exec = Jvm.exec ∧ c.code = code ∧ meth.sig.returnType = ret ∧ c.maxLocals = 7 ∧ s.vm.findClass R_law = some m.cls ∧ (∀ w ∈ lw_tbl, w.before #[Value.ref b] s = true) ∧ va_X b L xs s s.heap ∧ b < s.heap.size ∧ meth.locks = false ∧ (Jvm.Cond.and given_1 narrow_1).before #[Value.ref b] s = true
theorem L_bound {i L : Nat} (hL : L ≤ 2560) (hi : i ≤ L) (h : ¬ nI L - 5 < nI i) : i + 5 ≤ L := by
  rw [Int32.lt_iff_toInt_lt, Int32.toInt_sub, nI_toInt (by omega), nI_toInt (by omega), show (5 : Int32).toInt = 5 from rfl] at h
  have e : ((L : Int) - 5).bmod (2 ^ 32) = (L : Int) - 5 := by
    rw [Int.bmod_def]
    split <;> omega
  rw [e] at h
  omega
theorem L_idx {i L k : Nat} (hL : L ≤ 2560) (hk : k < 5) (h : i + 5 ≤ L) : vp_in (nI i + nI k) L := by
  rw [nI_add]; exact vp_in_nI (by omega) (by omega)
set_option maxHeartbeats 4000000 in
set_option maxRecDepth 100000 in
theorem L_loop {p : Program} {l : Launch} {e : Env} {s : State} {m : MethodId} {below : List Frame} {meth : Method} {c : Code} {b L : Nat} {xs : Nat → Int32} {G : va_G} {cI cD cE cO : ClassId} {ca : Nat → ClassId} {aX aM aO : Nat} {am : Nat → Nat} (hL : L ≤ 2560) (C : LC p l s m c b L xs G cI cD cE cO ca) (hr : meth.sig.returnType = ret) (hlocks : meth.locks = false) :
    ∀ (n i : Nat) (cells slots : Nat) (wX wM : va_W) (fo : Nat → Int64) (H : Heap) (locs : List Loc) (ls : Array Slot), i ≤ L → L + 1 ≤ i + n → cells + n ≤ 601024 → slots + 12 * n ≤ 7293034 → LST cI cD cE ca aX aM am wX wM → LWO G s cO aO wX wM fo H locs → lv_has ls 7 [(0, .ref b), (1, .ref aX), (2, .ref aM), (3, .ref aO), (4, .int (nI i))] → W p l e room_1 s m #[Value.ref b] below meth c H locs cells slots (lw_Z below #[Value.ref b] s) (F0 m 23 ls []) := by
  have C0 := C
  obtain ⟨hx, hb, hml, hown, hB, hX, hbl, hthr, hN, hKL, hKM, hl9⟩ := C
  have hA : ∀ q : Nat, s.heap.size ≤ q → (fun q : Nat => s.heap.size ≤ q) q := fun _ h => h
  have hbA : ¬ (fun q : Nat => s.heap.size ≤ q) b := Nat.not_le.mpr hbl
  intro n
  induction n with
  | zero =>
    intro i cells slots wX wM fo H locs ls h1 h2
    exact absurd h2 (by omega)
  | succ n ih =>
    intro i cells slots wX wM fo H locs ls hi hin hc hs hst hW hl
    have hS := hW.2.2
    refine lv_iload hx hb dL_law_23 (lv_at hl 4 rfl) ?_
    refine lv_aload_n hx hb dL_law_25 rfl (lv_at hl 0 rfl) ?_
    refine va_slen hx hb hX hbl hbA hS dL_law_26 ?_
    refine lv_iconst (v := 5) hx hb dL_law_27 (by decide) ?_
    refine lv_isub hx hb dL_law_28 ?_
    refine lv_icmp_gt (tgt := 873) hx hb dL_law_29 (by decide) (fun c1 => ?_) (fun c1 => ?_)
    · refine lv_iconst (v := 1) hx hb dL_law_873 (by decide) ?_
      refine va_forget (fun q hq => hS.2.2 q hq) ?_
      refine W.widen (k := 601024) (n := 7293034) (by omega) (by omega) ?_
      exact lw_ret hx hb hr hlocks dL_law_874
    · have h5 : i + 5 ≤ L := L_bound hL hi c1
      have s0 : vp_in (nI i) L := vp_in_nI (by omega) (by omega)
      have s1 : vp_in (nI i + 1) L := L_idx (k := 1) hL (by omega) h5
      have s2 : vp_in (nI i + 2) L := L_idx (k := 2) hL (by omega) h5
      have s3 : vp_in (nI i + 3) L := L_idx (k := 3) hL (by omega) h5
      have s4 : vp_in (nI i + 4) L := L_idx (k := 4) hL (by omega) h5
      have kk : ∀ (wX wM : va_W) (fo : Nat → Int64) (ls : Array Slot) (H : Heap) (locs : List Loc), LST cI cD cE ca aX aM am wX wM → LWO G s cO aO wX wM fo H locs → lv_has ls 7 [(0, .ref b), (1, .ref aX), (2, .ref aM), (3, .ref aO), (4, .int (nI i))] → W p l e room_1 s m #[Value.ref b] below meth c H locs (cells + 1) (slots + 12) (lw_Z below #[Value.ref b] s) (F0 m 867 ls []) := by
        intro wX wM fo ls H locs hst hW hl
        refine lv_iinc (v := nI (i + 5)) (lv' := [(4, .int (nI (i + 5))), (0, .ref b), (1, .ref aX), (2, .ref aM), (3, .ref aO)]) hx hb dL_law_867 hl (k := 4) rfl (nI_add i 5) (by decide) rfl (fun ls hl => ?_)
        refine lv_goto (tgt := 23) hx hb dL_law_870 (by decide) ?_
        exact ih (i + 5) (cells + 1) (slots + 12) wX wM fo H locs ls h5 (by omega) (by omega) (by omega) hst hW (lv_sub hl [1, 2, 3, 4, 0] rfl)
      refine lv_aload_n hx hb dL_law_32 rfl (lv_at hl 0 rfl) ?_
      refine lv_iload hx hb dL_law_33 (lv_at hl 4 rfl) ?_
      refine va_sld hx hb hX hbl hbA hS s0 dL_law_35 ?_
      refine lv_bipush (v := 15) hx hb dL_law_36 (by decide) ?_
      refine lv_iand hx hb dL_law_38 ?_
      generalize xs (nI i).toNatClampNeg &&& 15 = x9
      rcases x_sw0_11 x9 with h0 | h1 | h2 | h3 | h4 | h5 | h6 | h7 | h8 | h9 | h10 | h11 | ⟨h12, -⟩
      · refine lv_tableIn (tgt := 100) hx hb dL_law_39 (by rw [h0]; decide) (by rw [h0]; decide) (by rw [h0]; rfl) (by decide) ?_
        exact L_person C0 hst hW hl s1 s2 s3 s4 (by omega) (by omega) kk
      · refine lv_tableIn (tgt := 156) hx hb dL_law_39 (by rw [h1]; decide) (by rw [h1]; decide) (by rw [h1]; rfl) (by decide) ?_
        exact L_declaration C0 hst hW hl s1 s2 s3 s4 (by omega) (by omega) kk
      · refine lv_tableIn (tgt := 224) hx hb dL_law_39 (by rw [h2]; decide) (by rw [h2]; decide) (by rw [h2]; rfl) (by decide) ?_
        exact L_event C0 hst hW hl s1 s2 s3 s4 (by omega) (by omega) kk
      · refine lv_tableIn (tgt := 316) hx hb dL_law_39 (by rw [h3]; decide) (by rw [h3]; decide) (by rw [h3]; rfl) (by decide) ?_
        exact L_tick C0 hst hW hl s1 s2 s3 s4 (by omega) (by omega) kk
      · refine lv_tableIn (tgt := 372) hx hb dL_law_39 (by rw [h4]; decide) (by rw [h4]; decide) (by rw [h4]; rfl) (by decide) ?_
        exact L_hours C0 hst hW hl s1 s2 s3 s4 (by omega) (by omega) kk
      · refine lv_tableIn (tgt := 409) hx hb dL_law_39 (by rw [h5]; decide) (by rw [h5]; decide) (by rw [h5]; rfl) (by decide) ?_
        exact L_fails C0 hst hW hl s1 s2 s3 s4 (by omega) (by omega) kk
      · refine lv_tableIn (tgt := 462) hx hb dL_law_39 (by rw [h6]; decide) (by rw [h6]; decide) (by rw [h6]; rfl) (by decide) ?_
        exact L_bar C0 hst hW hl s1 s2 s3 s4 (by omega) (by omega) kk
      · refine lv_tableIn (tgt := 558) hx hb dL_law_39 (by rw [h7]; decide) (by rw [h7]; decide) (by rw [h7]; rfl) (by decide) ?_
        exact L_invalidate C0 hst hW hl s1 s2 s3 s4 (by omega) (by omega) kk
      · refine lv_tableIn (tgt := 638) hx hb dL_law_39 (by rw [h8]; decide) (by rw [h8]; decide) (by rw [h8]; rfl) (by decide) ?_
        exact L_look C0 hst hW hl s1 s2 s3 s4 (by omega) (by omega) kk
      · refine lv_tableIn (tgt := 706) hx hb dL_law_39 (by rw [h9]; decide) (by rw [h9]; decide) (by rw [h9]; rfl) (by decide) ?_
        exact L_written C0 hst hW hl s1 s2 s3 s4 (by omega) (by omega) kk
      · refine lv_tableIn (tgt := 774) hx hb dL_law_39 (by rw [h10]; decide) (by rw [h10]; decide) (by rw [h10]; rfl) (by decide) ?_
        exact L_of C0 hst hW hl s1 s2 s3 s4 (by omega) (by omega) kk
      · refine lv_tableIn (tgt := 842) hx hb dL_law_39 (by rw [h11]; decide) (by rw [h11]; decide) (by rw [h11]; rfl) (by decide) ?_
        exact L_count C0 hst hW hl s1 s2 s3 s4 (by omega) (by omega) kk
      · refine lv_tableOut (tgt := 867) hx hb dL_law_39 h12 (by decide) ?_
        refine W.widen (k := cells + 1) (n := slots + 12) (by omega) (by omega) ?_
        exact kk wX wM fo ls H locs hst hW hl
