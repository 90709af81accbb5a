-- THE LAW'S KIT: a callee's world is the first part of the caller's
theorem x_app_P {G : va_G} {w r : va_W} {H : Heap} (h : va_P G vwCl (w ++ r) H) : va_P G vwCl w H ∧ va_P G vwCl r H :=
  ⟨fun k q hk => h k q (by rw [List.getElem?_append_left (List.getElem?_eq_some_iff.mp hk).1]; exact hk), fun k q hk => h (w.length + k) q (by rw [List.getElem?_append_right (by omega)]; simpa using hk)⟩
theorem x_app_D {A : Nat → Prop} {w r : va_W} (h : va_D A (w ++ r)) : va_D A w ∧ va_D A r ∧ ∀ (i j : Nat) (p q : Nat × va_E), w[i]? = some p → r[j]? = some q → p.1 ≠ q.1 := by
  have hl : ∀ {k : Nat} {q : Nat × va_E}, w[k]? = some q → (w ++ r)[k]? = some q := fun hk => by rw [List.getElem?_append_left (List.getElem?_eq_some_iff.mp hk).1]; exact hk
  have hr : ∀ {k : Nat} {q : Nat × va_E}, r[k]? = some q → (w ++ r)[w.length + k]? = some q := fun hk => by rw [List.getElem?_append_right (by omega)]; simpa using hk
  refine ⟨⟨fun i j p q hi hj e => h.1 i j p q (hl hi) (hl hj) e, fun k q hk => h.2 k q (hl hk)⟩, ⟨fun i j p q hi hj e => ?_, fun k q hk => h.2 _ q (hr hk)⟩, fun i j p q hi hj e => ?_⟩
  · have := h.1 _ _ p q (hr hi) (hr hj) e; omega
  · have h1 := h.1 _ _ p q (hl hi) (hr hj) e
    have h2 := (List.getElem?_eq_some_iff.mp hi).1
    omega
/-- behind a call: what came back, and the rest as it was -/
theorem x_join {A : Nat → Prop} {G : va_G} {w w' r : va_W} {H H1 : Heap} (hP : va_P G vwCl (w ++ r) H) (hD : va_D A (w ++ r)) (hF : ∀ q, va_A w H.size q → A q) (hk : ∀ q : Nat, q < H.size → ¬ va_A w H.size q → H1[q]? = H[q]?) (hP1 : va_P G vwCl w' H1) (hD1 : va_D (va_A w H.size) w') : va_P G vwCl (w' ++ r) H1 ∧ va_D A (w' ++ r) := by
  obtain ⟨-, hPr⟩ := x_app_P hP
  obtain ⟨hDw, hDr, hx⟩ := x_app_D hD
  have apart : ∀ (k : Nat) (q : Nat × va_E), r[k]? = some q → q.1 < H.size ∧ ¬ va_A w H.size q.1 := by
    intro k q hq
    have hl := (hPr k q hq).lt
    refine ⟨hl, fun h => ?_⟩
    rcases h with ⟨i, e, h⟩ | h
    · exact hx i k _ q h hq rfl
    · omega
  refine ⟨va_P.app hP1 (fun k q hq => (hPr k q hq).kept (hk q.1 (apart k q hq).1 (apart k q hq).2)), va_D.app (hD1.weaken (fun _ q _ h => hF q.1 h)) hDr (fun i j x y h1 h2 e => ?_)⟩
  exact (apart j y h2).2 (by rw [← e]; exact hD1.2 i x h1)
theorem x_blindX {G : va_G} {tys : List (ClassId × FieldType)} {w : va_W} {sz : Nat} {av : List Value} : FrameBlind (va_Pc av (xPreX G tys w sz)) := fun a U g mk q => by
  obtain ⟨q0, ⟨q1, qP, qK, qD⟩, qT⟩ := q
  exact ⟨q0, ⟨q1, qP, va_K.moved (u := U) (U := U.calling g mk a) (Vm.Alike.refl U.vm) qK, qD⟩, (show xThr (va_A w sz) (U.calling g mk a) U.heap from xThr.same (u := U) rfl qT)⟩
theorem x_preVX {s : State} {H : Heap} {A : Nat → Prop} {G : va_G} {tys : List (ClassId × FieldType)} {w : va_W} {As fs : List Value} {b k ci : Nat} {q : vw_C} {locs : List Loc} (hP : va_P G vwCl w H) (hK : va_K G vwCl tys s) (hD : va_D A w) (hS : va_S A s.heap H locs) (hA : ∀ q, s.heap.size ≤ q → A q) (hthr : xThr A s s.heap) (he : w[k]? = some (b, .inr (ci, fs))) (hc : vwCl[ci]? = some q) : PreV s H q.1 b (va_Pc (.ref b :: As) (xPreX G tys w H.size)) As :=
  ⟨x_blindX, va_recv hK hP hc he, fun U hU hW => ⟨rfl, ⟨by rw [hU], by rw [hU]; exact hP, va_K.moved hW.alike hK, hD.weaken (fun _ _ _ _ => trivial)⟩, by
    rw [hU]; exact ((hthr.kept hS.2.1).narrow (x_free hD hS hA)).warm hW⟩⟩
section XL
variable {p : Program} {l : Launch} {e : Env} {R : Room} {s : State} {m : MethodId} {args : Array Value} {below : List Frame} {meth : Method} {c : Code} {H : Heap} {locs : List Loc} {cells slots : Nat} {Q : State → Prop}
variable {cc : ByteArray} {pc : Nat} {ls : Array Slot} {rest st0 : List Value} {A : Nat → Prop} {H0 : Heap} {G : va_G} {tys : List (ClassId × FieldType)} {w r : va_W} {mc ms : Nat} {a : Array Value}
theorem x_callXi {post : Int32 → va_W → Prop} {pX : String → Prop} (hr : vx_Run p l e R s m args below meth c H locs cells slots mc ms (F0 m pc ls st0) rest (va_Qi post (xEnd G tys (va_A w H.size)) (va_A w H.size) a) (xXC G tys w pX (va_A w H.size)) (va_A w H.size)) (hP : va_P G vwCl (w ++ r) H) (hD : va_D A (w ++ r)) (hS : va_S A H0 H locs) (hA : ∀ q, H0.size ≤ q → A q)
    (kx : ∀ (E : String) (ce : Cell) (q9 : Addr) (H1 : Heap) (locs1 : List Loc), pX E → va_P G vwCl (w ++ r) H1 → va_D A (w ++ r) → va_S A H0 H1 locs1 → H1[q9]? = some ce → ce.vm = .none → s.vm.findClass E = some ce.cls → vx_W p l e R s m args below meth c H1 locs1 (cells + mc) (slots + ms) Q (F0 m pc ls rest) q9)
    (kk : ∀ (v : Int32) (w' : va_W) (H1 : Heap) (locs1 : List Loc), post v w' → va_P G vwCl (w' ++ r) H1 → va_D A (w' ++ r) → va_S A H0 H1 locs1 → W p l e R s m args below meth c H1 locs1 (cells + mc) (slots + ms) Q (F0 m (pc + 3) ls (.int v :: rest))) : W p l e R s m args below meth c H locs cells slots Q (F0 m pc ls st0) := by
  have hF := x_free (x_app_D hD).1 hS hA
  refine vx_calli hr hS (fun q _ h => hF q h) hF (fun q _ h => hF q h) (fun E ce q9 u t H1 locs ht hvm hp hB hz hk hS hc1 hc2 hc3 => ?_) (fun v u t H1 locs ht hvm hw hB hz hk hS => ?_)
  · obtain ⟨h1, h2⟩ := x_join hP hD hF hk (by rw [← ht]; exact hB.2.1) hB.2.2.2
    exact kx E ce q9 H1 locs hB.1 h1 h2 hS hc1 hc2 hc3
  · obtain ⟨h1, h2⟩ := x_join hP hD hF hk (by rw [← ht]; exact hB.1) hB.2.2
    exact kk v u H1 locs hw h1 h2 hS
end XL
abbrev oL (cO : ClassId) (fo : Nat → Int64) : va_E := .inl (cO, 1, .inr (.inl fo))
def lPost (post : Int32 → va_W → Prop) (pX : String → Prop) (w : va_W) (fo : Nat → Int64) (r : Int32) (u : va_W × (Nat → Int64)) : Prop := (r = 0 ∧ ∃ v, post v u.1 ∧ u.2 = vp_updL fo 0 v.toInt64) ∨ (r = 1 ∧ (pX eIAE ∨ pX eIOB) ∧ u = (w, fo)) ∨ (r = 2 ∧ pX eISE ∧ u = (w, fo))
abbrev lTys (cI cD cE cO : ClassId) : List (ClassId × FieldType) := [(cI, .int), (cD, .object NmD), (cE, .object NmE), (cO, .long)]
