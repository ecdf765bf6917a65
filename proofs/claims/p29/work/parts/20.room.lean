def room_B : Jvm.Room := { frames := 40, cells := 3000, slots := 20000, locals := 3000 }
/-! THE CLAIM OUT OF ONE WALK OF THE LAW'S BODY. Your part is whole_start (and what it stands on); all else here is the same for every law, but numbers. -/
def R_lawB : String := "SettlementFundLaw"
def rz_P (b : Addr) (xs : List Int32) (args : Array Value) (s : State) : Prop := args = #[.ref b] ∧ s.IntsAt b xs ∧ xs = List.replicate 100 0 ∧ (Jvm.Cond.and given_1 narrow_1).before args s = true
def rz_Q (_ : Array Value) (s : State) (o : Outcome) (t : State) : Prop := o = .returned (some (.int 1)) ∧ Framed s o t [] 3000 20000 ∧ s.heap.size + 196 ≤ t.heap.size
def rz_Z (below : List Frame) (a : Array Value) (s : State) : State → Prop := fun t => ∃ o, t.status = .running ∧ Ended t below o ∧ rz_Q a s o t
/-- the law's own end, with 1 on the stack, nothing written that was there before, its room as the claim has it -/
theorem rz_ret {p : Program} {l : Launch} {e : Env} {s : State} {m : MethodId} {below : List Frame} {meth : Method} {c : Code} {b : Nat} (hx : p.tables.exec = Jvm.exec) (hb : c.code = code) (hr : meth.sig.returnType = ret) (hlocks : meth.locks = false) {pc : Nat} {H : Heap} {ls : Array Slot} (hz9 : s.heap.size + 196 ≤ H.size) (hdg : decode code pc = .ok (.ireturn, 1)) : W p l e room_B s m #[Value.ref b] below meth c H [] 3000 20000 (rz_Z below #[Value.ref b] s) (F0 m pc ls [.int 1]) := by
  intro T hT X
  obtain ⟨fs, hret, hrun, hended, hW, hframe⟩ := X.leave (v := some (.int 1)) (hlocks := hlocks) (fun h => by rw [hr] at h; cases h)
  have hmeth' : T.vm.method? m = some meth := X.method'
  refine ⟨T.setFrames fs, ?_, .returned (some (.int 1)), hrun, hended, rfl, ⟨⟨_, rfl⟩, hW, hframe⟩, by show s.heap.size + 196 ≤ T.heap.size; rw [hT]; exact hz9⟩
  jvm_step X.here [X.here.top, hx, hb, hdg, hmeth', hr, ret, narrow_b1]
  (try refine ⟨rfl, ?_⟩); (try refine ⟨rfl, ?_⟩)
  first | (intro acts; rw [hret _ acts rfl rfl rfl]) | rw [hret _ _ rfl rfl rfl]
  exact Steps.refl _
/-- what holds at the law's entry: the machine, the code, the tables' words (any of lw_tbl by 'hts w (by decide +kernel)'), the script of L ints xs at the cell b, what the Statement gives of the start (any of its parts by flat_of_before) -/
def rz_At (p : Program) (s : State) (m : MethodId) (meth : Method) (c : Code) (b L : Nat) (xs : Nat → Int32) : Prop :=
  p.tables.exec = Jvm.exec ∧ c.code = code ∧ meth.sig.returnType = ret ∧ c.maxLocals = 19 ∧ s.vm.findClass R_lawB = some m.cls ∧ (∀ w ∈ lw_tbl, w.before #[Value.ref b] s = true) ∧ va_X b L xs s s.heap ∧ b < s.heap.size ∧ meth.locks = false ∧ (Jvm.Cond.and given_1 narrow_1).before #[Value.ref b] s = true
theorem dwM {A : Nat → Prop} {cI cZ : ClassId} {ad : Nat → Nat} {o9 : Nat} (hI : iwC ad) (ho : ¬ awC ad o9) (hA : ∀ x, awC ad x → A x) (hm : A o9) (e9 : va_E) (sm fe ex dy : Int32) (gp gc op gr st dl wo : Nat → Int32) (n : Nat) (yc ya ys yd : Nat → Int32) (q : Nat) (zc zp zr zs zf : Nat → Int32) (z : Nat) (zm zt : Int64) : va_D A (wC cI cZ ad sm fe ex dy gp gc op gr st dl wo n yc ya ys yd q zc zp zr zs zf z zm zt ++ [(o9, e9)]) := by
  refine zz_D 21 (fun j => if j < 20 then ad j else o9) _ _ (fun j hj => ?_) (fun i j hi hj e => ?_) rfl
  · by_cases c : j < 20
    · show A (if j < 20 then ad j else o9); rw [if_pos c]; exact hA _ ⟨j, c, rfl⟩
    · show A (if j < 20 then ad j else o9); rw [if_neg c]; exact hm
  · have e : (if i < 20 then ad i else o9) = (if j < 20 then ad j else o9) := e
    by_cases c : i < 20 <;> by_cases d : j < 20
    · rw [if_pos c, if_pos d] at e; exact hI i j c d e
    · rw [if_pos c, if_neg d] at e; exact absurd ⟨i, c, e.symm⟩ ho
    · rw [if_neg c, if_pos d] at e; exact absurd ⟨j, d, e⟩ ho
    · omega
theorem zz_I {N : Nat} {f : Nat → Nat} {A : Nat → Prop} {ws : va_W} (h : va_D A ws) (hs : ws.map (fun x => x.1) = (List.range N).map f) : (∀ i j, i < N → j < N → f i = f j → i = j) ∧ ∀ j, j < N → A (f j) := by
  have key : ∀ i, i < N → ∃ y, ws[i]? = some y ∧ y.1 = f i := by
    intro i hi
    have h1 : (ws.map (fun x => x.1))[i]? = some (f i) := by rw [hs, List.getElem?_map, List.getElem?_range hi]; rfl
    rw [List.getElem?_map] at h1
    cases e : ws[i]? with
    | none => rw [e] at h1; cases h1
    | some y => rw [e] at h1; exact ⟨y, rfl, Option.some.inj h1⟩
  refine ⟨fun i j hi hj e => ?_, fun j hj => ?_⟩
  · obtain ⟨x, h1, h2⟩ := key i hi
    obtain ⟨y, h3, h4⟩ := key j hj
    exact h.1 i j x y h1 h3 (by rw [h2, h4, e])
  · obtain ⟨y, h1, h2⟩ := key j hj
    rw [← h2]; exact h.2 j y h1
theorem zz_Sr {A : Nat → Prop} {H0 H : Heap} {locs : List Loc} (h : va_S A H0 H locs) : va_S A H H locs := ⟨Nat.le_refl _, fun _ _ _ => rfl, h.2.2⟩
theorem zz_St {A : Nat → Prop} {H0 H H1 : Heap} {locs locs1 : List Loc} (h : va_S A H0 H locs) (h1 : va_S A H H1 locs1) : va_S A H0 H1 locs1 := ⟨Nat.le_trans h.1 h1.1, fun q a b => (h1.2.1 q (Nat.lt_of_lt_of_le a h.1) b).trans (h.2.1 q a b), h1.2.2⟩
