/-! a call on a part of the world: the rest stays -/
theorem j_at {wl w wr : va_W} {k : Nat} {q : Nat × va_E} (h : w[k]? = some q) : (wl ++ (w ++ wr))[wl.length + k]? = some q := by
  rw [List.getElem?_append_right (by omega), Nat.add_sub_cancel_left, List.getElem?_append_left (List.getElem?_eq_some_iff.mp h).1]
  exact h
theorem j_P {D : va_G} {cl : List vw_C} {wl w wr : va_W} {H : Heap} (hP : va_P D cl (wl ++ (w ++ wr)) H) : va_P D cl w H := fun _ q hk => hP _ q (j_at hk)
theorem j_D {A : Nat → Prop} {wl w wr : va_W} (hD : va_D A (wl ++ (w ++ wr))) : va_D A w := ⟨fun i j p q hp hq e => by
  have := hD.1 _ _ p q (j_at (wl := wl) (wr := wr) hp) (j_at (wl := wl) (wr := wr) hq) e
  omega, fun _ q hk => hD.2 _ q (j_at hk)⟩
theorem j_lt {D : va_G} {cl : List vw_C} {w : va_W} {H : Heap} (hP : va_P D cl w H) {k : Nat} {q : Nat × va_E} (hk : w[k]? = some q) : q.1 < H.size := by
  have h := hP k q hk
  unfold va_at at h
  split at h
  · exact (Array.getElem?_eq_some_iff.mp h).1
  · obtain ⟨r, -, ce, h1, -⟩ := h
    exact (Array.getElem?_eq_some_iff.mp h1).1
theorem j_join {D : va_G} {cl : List vw_C} {A : Nat → Prop} {wl w w' wr : va_W} {H H1 : Heap} (hP : va_P D cl (wl ++ (w ++ wr)) H) (hD : va_D A (wl ++ (w ++ wr))) (hB : va_P D cl w' H1) (hw : w.map Prod.fst = w'.map Prod.fst)
    (hk : ∀ q : Nat, q < H.size → ¬ va_A w H.size q → H1[q]? = H[q]?) : va_P D cl (wl ++ (w' ++ wr)) H1 ∧ va_D A (wl ++ (w' ++ wr)) := by
  have hlen : w.length = w'.length := by rw [← List.length_map (f := Prod.fst), hw, List.length_map]
  have hkeep : ∀ (k : Nat) (q : Nat × va_E), (wl ++ (w ++ wr))[k]? = some q → (k < wl.length ∨ wl.length + w.length ≤ k) → va_at D cl q H1 := fun k q hq ho => by
    refine (hP k q hq).kept (hk q.1 (j_lt hP hq) ?_)
    rintro (⟨k', e, h⟩ | h)
    · have := hD.1 _ _ _ _ hq (j_at (wl := wl) (wr := wr) h) rfl
      have := (List.getElem?_eq_some_iff.mp h).1
      omega
    · have := j_lt hP hq
      omega
  refine ⟨fun k q hq => ?_, kd_same (by simp [hw]) hD⟩
  by_cases h1 : k < wl.length
  · refine hkeep k q ?_ (Or.inl h1)
    rw [List.getElem?_append_left h1] at hq ⊢
    exact hq
  · rw [List.getElem?_append_right (by omega)] at hq
    by_cases h2 : k - wl.length < w'.length
    · rw [List.getElem?_append_left h2] at hq
      exact hB _ q hq
    · refine hkeep k q ?_ (Or.inr (by omega))
      rw [List.getElem?_append_right (by omega), List.getElem?_append_right (by omega), hlen]
      rw [List.getElem?_append_right (by omega)] at hq
      exact hq
section KS
variable {p : Program} {l : Launch} {e : Env} {R : Room} {s : State} {m : MethodId} {args : Array Value} {below : List Frame} {meth : Method} {c : Code} {H : Heap} {locs : List Loc} {cells slots mc ms : Nat} {Q : State → Prop}
variable {pc : Nat} {ls : Array Slot} {rest st0 : List Value} {a : Array Value}
theorem k_si {S : Type} {w : S → va_W} (hw : ∀ x u, (w x).map Prod.fst = (w u).map Prod.fst) {wl wr : va_W} {D : va_G} {cl : List vw_C} {x : S} {post : Int32 → S → Prop} {A0 : Nat → Prop} {H0 : Heap}
    (hr : va_Run p l e R s m args below meth c H locs cells slots mc ms (F0 m pc ls st0) rest (va_Qi post (fun u t => va_P D cl (w u) t.heap) (va_A (w x) H.size) a) (va_A (w x) H.size)) (hP : va_P D cl (wl ++ (w x ++ wr)) H) (hD : va_D A0 (wl ++ (w x ++ wr))) (hS : va_S A0 H0 H locs) (hA : ∀ q, H0.size ≤ q → A0 q)
    (kk : ∀ (r : Int32) (u : S) (H1 : Heap) (locs1 : List Loc), post r u → va_P D cl (wl ++ (w u ++ wr)) H1 → va_D A0 (wl ++ (w u ++ wr)) → va_S A0 H0 H1 locs1 → W p l e R s m args below meth c H1 locs1 (cells + mc) (slots + ms) Q (F0 m (pc + 3) ls (.int r :: rest))) : W p l e R s m args below meth c H locs cells slots Q (F0 m pc ls st0) :=
  va_calli hr hS (fun q _ h => k_free (j_D hD) hS hA q h) (k_free (j_D hD) hS hA) (fun r u t H1 locs1 ht _ hp hB _ hk hS1 => by
    have hJ := j_join hP hD (w' := w u) (H1 := H1) (by rw [← ht]; exact hB) (hw x u) hk
    exact kk r u H1 locs1 hp hJ.1 hJ.2 hS1)
theorem k_sv {S : Type} {w : S → va_W} (hw : ∀ x u, (w x).map Prod.fst = (w u).map Prod.fst) {wl wr : va_W} {D : va_G} {cl : List vw_C} {x : S} {post : S → Prop} {A0 : Nat → Prop} {H0 : Heap}
    (hr : va_Run p l e R s m args below meth c H locs cells slots mc ms (F0 m pc ls st0) rest (va_Qv post (fun u t => va_P D cl (w u) t.heap) (va_A (w x) H.size) a) (va_A (w x) H.size)) (hP : va_P D cl (wl ++ (w x ++ wr)) H) (hD : va_D A0 (wl ++ (w x ++ wr))) (hS : va_S A0 H0 H locs) (hA : ∀ q, H0.size ≤ q → A0 q)
    (kk : ∀ (u : S) (H1 : Heap) (locs1 : List Loc), post u → va_P D cl (wl ++ (w u ++ wr)) H1 → va_D A0 (wl ++ (w u ++ wr)) → va_S A0 H0 H1 locs1 → W p l e R s m args below meth c H1 locs1 (cells + mc) (slots + ms) Q (F0 m (pc + 3) ls rest)) : W p l e R s m args below meth c H locs cells slots Q (F0 m pc ls st0) :=
  va_callv hr hS (fun q _ h => k_free (j_D hD) hS hA q h) (k_free (j_D hD) hS hA) (fun u t H1 locs1 ht _ hp hB _ hk hS1 => by
    have hJ := j_join hP hD (w' := w u) (H1 := H1) (by rw [← ht]; exact hB) (hw x u) hk
    exact kk u H1 locs1 hp hJ.1 hJ.2 hS1)
/-- invokestatic of a method that has a table of its own -/
theorem z_runS {y : MethodName} {bytes cc : ByteArray} {maxL nL n index : Nat} {ret : Option FieldType} {hh : List (Nat × Nat × Nat × Nat)} {ws : List Cond} {rm : Room} {Pc : Array Value → State → Prop} {Qc : Array Value → State → Outcome → State → Prop} {free : Addr → Prop} {Ts : List Cond} {own : String} {As : List Value}
    (S : CallFix p m c cc nL s args Ts own) (hM : Met l y ws rm Pc Qc mc ms free) (hB : ∀ w ∈ BIG, w.before args s = true) (hws : ∀ w ∈ ws, w ∈ BIG) (hcw : Cond.codeWith y bytes maxL ret hh ∈ ws) (hlk : Cond.methodLink own index y ∈ BIG) (hst : Cond.static y ∈ BIG) (hin : Cond.initialized y.cls ∈ BIG)
    (hy : y.cls ≠ "java/lang/invoke/MethodHandle" ∧ y.cls ≠ "java/lang/invoke/VarHandle") (hpn : (parseMethodDescriptor y.desc).map (fun d => d.parameters.length) = some n) (hrc : rm.cells = mc) (hrs : rm.slots = ms) (hR : rm.frames + 1 ≤ R.frames ∧ 8 + (maxL + 11) + rm.locals ≤ R.locals)
    (hp : PreS s H Pc As) (hn : As.length = n) (hsize : ls.size = nL) (hstack : st0 = As.reverse ++ rest) (hW : 2 * (F0 m pc ls st0).monitorRoom + (rest.map fun v => v.category).sum ≤ 8) (hdg : decode cc pc = .ok (.invokestatic index, 3)) (hf : cells + mc ≤ R.cells ∧ slots + ms ≤ R.slots) :
    va_Run p l e R s m args below meth c H locs cells slots mc ms (F0 m pc ls st0) rest (Qc As.toArray) free := by
  have hgood : ∀ w ∈ ws, ∀ (a' : Array Value) (U : State), s.WarmedH U.vm → w.before a' U = true := pay_in hB (good_in hws)
  have hini := hB _ hin
  have hK : Back l R p e below s args y 3 8 (PreOf R mc ms Pc) (PostOf Qc mc ms free) := va_backW (hh := hh) (bytes := bytes) (maxL := maxL) (ret := ret) hM hp.1 hrc hrs hR.1 hR.2 hgood hcw (fun a' U hW => word_at hW (Or.inl (by first | rfl | simp [Cond.onTables, Cond.keeps, Cond.steady])) hini)
  obtain ⟨hx, hb, hml, ho, -⟩ := S
  intro T hT X
  obtain ⟨mk, methM, cM, hnamed, hmethM, -, -, -, -, -, -, hsigM⟩ := Cond.codeWith_spec (hB _ (hws _ hcw))
  obtain ⟨kP, hkP, -⟩ := className_of_methodNamed hnamed
  obtain ⟨vm₁, X₁, hstep₁⟩ := X.invokestatic hx ho (hB _ hlk) hnamed hmethM (Cond.static_spec hnamed hmethM (hB _ hst)) hkP (Cond.initialized_spec (findClass_of_methodNamed hnamed) hkP hini) hy (g := F0 m pc ls st0) rfl (argsL := As) (rest := rest)
    (by rw [hsigM] at hpn; exact hn.trans (Option.some.inj hpn).symm) hstack (by rw [hb]; exact hdg)
  obtain ⟨v, ⟨U', l2, c2, s2⟩, X', ⟨g', mk', t, L, e1, e2, hq, h1, hL, h2, h3⟩, hsteps⟩ := hK m meth c ⟨T.setVm vm₁, locs, cells, slots⟩ (F0 m pc ls rest) (.invokestatic index) mk As.toArray X₁ rfl (hsize.trans hml.symm) (by rw [hb]; exact hdg) hW (X₁.named hnamed) ⟨hf.1, hf.2, hp.2 (T.setVm vm₁) hT X₁.warmed⟩
  dsimp only [Pt.U, Pt.locs, Pt.cells, Pt.slots] at X' e1 e2 h1 h2 h3 hsteps
  subst h1; subst h2; subst h3
  exact ⟨v, (T.setVm vm₁).calling g' mk' As.toArray, t, U', L, hT, X', hL, e1, e2, hq, fun target h => hstep₁ _ fun acts => by rw [doInvoke_state]; exact hsteps.trans h⟩
/-- the table of a body with handlers -/
theorem z_table {y : MethodName} {S : Spec} {cc bytes : ByteArray} {maxL maxL' : Nat} {ret ret' : Option FieldType} {s₁ : State} {hh : List (Nat × Nat × Nat × Nat)}
    (B : BodyLoose p l y S cc maxL ret e s m args below meth c s₁) (h : (Cond.codeWith y bytes maxL' ret' hh).before args s = true) : c.exceptionTable.toList = tableOf hh := by
  obtain ⟨m9, meth9, c9, hn9, h1, h2, -, -, h6, -⟩ := Cond.codeWith_spec h
  cases Option.some.inj (hn9.symm.trans B.named)
  cases Option.some.inj (h1.symm.trans B.method)
  cases Option.some.inj (h2.symm.trans (Stand.of_body B).code)
  rw [← h6, table_eq]
end KS
