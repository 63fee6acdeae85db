
-- the law: its own words, its rows
/-! THE CLAIM OUT OF ONE WALK OF THE LAW'S BODY. Your part is whole_start (and what it stands on); all else here is the same for every law, but numbers. -/
def R_law : String := "DrawnByLostLaw"
def lw_P (b : Addr) (xs : List Int32) (args : Array Value) (s : State) : Prop := args = #[.ref b] ∧ s.IntsAt b xs ∧ xs.length ≤ 256 ∧ (Jvm.Cond.and given_1 narrow_1).before args s = true
def lw_Q (_ : Array Value) (s : State) (o : Outcome) (t : State) : Prop := o = .returned (some (.int 1)) ∧ Framed s o t [] 600000 7302250
def lw_Z (below : List Frame) (a : Array Value) (s : State) : State → Prop := fun t => ∃ o, t.status = .running ∧ Ended t below o ∧ lw_Q a s o t
/-- the law's own end, with 1 on the stack, nothing written that was there before, its room as the claim has it -/
theorem lw_ret {p : Program} {l : Launch} {e : Env} {s : State} {m : MethodId} {below : List Frame} {meth : Method} {c : Code} {b : Nat} (hx : p.tables.exec = Jvm.exec) (hb : c.code = code) (hr : meth.sig.returnType = ret) (hlocks : meth.locks = false) {pc : Nat} {H : Heap} {ls : Array Slot} (hdg : decode code pc = .ok (.ireturn, 1)) : W p l e room_1 s m #[Value.ref b] below meth c H [] 600000 7302250 (lw_Z below #[Value.ref b] s) (F0 m pc ls [.int 1]) := by
  intro T hT X
  obtain ⟨fs, hret, hrun, hended, hW, hframe⟩ := X.leave (v := some (.int 1)) (hlocks := hlocks) (fun h => by rw [hr] at h; cases h)
  have hmeth' : T.vm.method? m = some meth := X.method'
  refine ⟨T.setFrames fs, ?_, .returned (some (.int 1)), hrun, hended, rfl, ⟨_, rfl⟩, hW, hframe⟩
  jvm_step X.here [X.here.top, hx, hb, hdg, hmeth', hr, ret, narrow_b1]
  (try refine ⟨rfl, ?_⟩); (try refine ⟨rfl, ?_⟩)
  first | (intro acts; rw [hret _ acts rfl rfl rfl]) | rw [hret _ _ rfl rfl rfl]
  exact Steps.refl _
/-- what holds at the law's entry: the machine, the code, the tables' words (any of lw_tbl by 'hts w (by decide +kernel)'), the script of L ints xs at the cell b, what the Statement gives of the start (any of its parts by flat_of_before) -/
def lw_At (p : Program) (s : State) (m : MethodId) (meth : Method) (c : Code) (b L : Nat) (xs : Nat → Int32) : Prop :=
  p.tables.exec = Jvm.exec ∧ c.code = code ∧ meth.sig.returnType = ret ∧ c.maxLocals = 4 ∧ s.vm.findClass R_law = some m.cls ∧ (∀ w ∈ lw_tbl, w.before #[Value.ref b] s = true) ∧ va_X b L xs s s.heap ∧ b < s.heap.size ∧ meth.locks = false ∧ (Jvm.Cond.and given_1 narrow_1).before #[Value.ref b] s = true
section VL0
variable {l : Launch} {D : va_G} {cy : CY} {B : Nat} {cc : ByteArray} {nL : Nat} {own : String} {ws : List Cond} {R : Room} {rt : Option FieldType} {QE : List Frame → Array Value → State → State → Prop} {EX : State → Method → Array Value → Prop} {n : Nat} {r : Rf} {h : Hp} {lg : Lg} {ca sa pc pc' : Nat} {ls : List (Option Value)} {st : List Value}
theorem wp_sld {b L : Nat} {xs : Nat → Int32} {i : Int32} (hEE : ∀ s meth args, EX s meth args → b < B ∧ va_X b L xs s s.heap) (hin : vp_in i L) (hd : decode cc pc = .ok (.iaload, 1)) (hp : pc + 1 = pc') (kk : WP l D cy B cc nL own ws R rt QE EX n r h lg ca sa pc' ls (.int (xs i.toNatClampNeg) :: st)) : WP l D cy B cc nL own ws R rt QE EX n r h lg ca sa pc ls (.int i :: .ref b :: st) := by
  subst hp
  intro p e s m args below meth c H locs lsA C0 hP hZ hS hL
  obtain ⟨hx, hb, hml, hown, hts, hr, hlk, hKN, hB, hE⟩ := id C0
  obtain ⟨e1, e2⟩ := hEE _ _ _ hE
  exact va_sld hx hb e2 (Nat.lt_of_lt_of_le e1 hB) (Nat.not_le.mpr e1) hS hin hd (kk p e s m args below meth c H locs lsA C0 hP hZ hS hL)
theorem wp_slen {b L : Nat} {xs : Nat → Int32} (hEE : ∀ s meth args, EX s meth args → b < B ∧ va_X b L xs s s.heap) (hd : decode cc pc = .ok (.arraylength, 1)) (hp : pc + 1 = pc') (kk : WP l D cy B cc nL own ws R rt QE EX n r h lg ca sa pc' ls (.int (nI L) :: st)) : WP l D cy B cc nL own ws R rt QE EX n r h lg ca sa pc ls (.ref b :: st) := by
  subst hp
  intro p e s m args below meth c H locs lsA C0 hP hZ hS hL
  obtain ⟨hx, hb, hml, hown, hts, hr, hlk, hKN, hB, hE⟩ := id C0
  obtain ⟨e1, e2⟩ := hEE _ _ _ hE
  exact va_slen hx hb e2 (Nat.lt_of_lt_of_le e1 hB) (Nat.not_le.mpr e1) hS hd (kk p e s m args below meth c H locs lsA C0 hP hZ hS hL)
theorem wp_callVX {σ2 : Sg} {x : Int32} {y : MethodName} {ws' ws2 : List Cond} {rm : Room} {idx maxL a : Nat} {bytes : ByteArray} {ret : Option FieldType} {As st0 : List Value} {C : String} {T : u_T} {N ci k : Nat} {fs : List Value} (hc : Ctr l D cy B y ws' rm 0 0 n r h lg (.ref (B + k) :: As) (XQ h lg x σ2)) (hg : GoodIn ws (wsV own idx C y ws')) (hw : ws' = Cond.code y bytes maxL ret :: ws2) (hn : As.length = a) (hy : y.cls = C ∧ y.cls ≠ "java/lang/invoke/MethodHandle" ∧ y.cls ≠ "java/lang/invoke/VarHandle" ∧ (parseMethodDescriptor y.desc).map (fun d => d.parameters.length) = some a) (hR : rm.frames + 1 ≤ R.frames ∧ 8 + (maxL + 11) + rm.locals ≤ R.locals) (hrc : rm.cells = 0 ∧ rm.slots = 0) (hcat : (st.map fun v => v.category).sum ≤ 8) (hroom : ca + 0 ≤ R.cells ∧ sa + 0 ≤ R.slots) (hk : k < n) (hce : ce B cy r h lg k = .inr (ci, fs)) (hci : vwCl[ci]? = some (C, T, N)) (hst : st0 = As.reverse ++ .ref (B + k) :: st) (hd : decode cc pc = .ok (.invokevirtual idx, 3)) (hp : pc + 3 = pc') (kk : ∀ π1 h1, XI h1 π1 σ2 → (∀ k, 89 ≤ k → h1 k = h k) → WP l D cy B cc nL own ws R rt QE EX n (rf0 π1) h1 lg ca sa pc' ls (.int x :: st)) : WP l D cy B cc nL own ws R rt QE EX n r h lg ca sa pc ls st0 := wp_callV (post := (XQ h lg x σ2)) hc hg hw hn hy hR hrc hcat hroom hk hce hci hst hd hp (fun v r1 h1 lg1 q => by obtain ⟨rfl, rfl, ⟨π1, rfl, X⟩, f⟩ := q; exact kk π1 h1 X f)
theorem wp_callVZ {σ2 : Sg} {π : Nat → Nat} {x : Int32} {y : MethodName} {ws' ws2 : List Cond} {rm : Room} {idx maxL a : Nat} {bytes : ByteArray} {ret : Option FieldType} {As st0 : List Value} {C : String} {T : u_T} {N ci k : Nat} {fs : List Value} (hc : Ctr l D cy B y ws' rm 0 0 n r h lg (.ref (B + k) :: As) (ZQ π h x σ2)) (hg : GoodIn ws (wsV own idx C y ws')) (hw : ws' = Cond.code y bytes maxL ret :: ws2) (hn : As.length = a) (hy : y.cls = C ∧ y.cls ≠ "java/lang/invoke/MethodHandle" ∧ y.cls ≠ "java/lang/invoke/VarHandle" ∧ (parseMethodDescriptor y.desc).map (fun d => d.parameters.length) = some a) (hR : rm.frames + 1 ≤ R.frames ∧ 8 + (maxL + 11) + rm.locals ≤ R.locals) (hrc : rm.cells = 0 ∧ rm.slots = 0) (hcat : (st.map fun v => v.category).sum ≤ 8) (hroom : ca + 0 ≤ R.cells ∧ sa + 0 ≤ R.slots) (hk : k < n) (hce : ce B cy r h lg k = .inr (ci, fs)) (hci : vwCl[ci]? = some (C, T, N)) (hst : st0 = As.reverse ++ .ref (B + k) :: st) (hd : decode cc pc = .ok (.invokevirtual idx, 3)) (hp : pc + 3 = pc') (kk : ∀ h1 lg1, MI h1 σ2 → (∀ k, k < 89 → h1 k = h k) → WP l D cy B cc nL own ws R rt QE EX n (rf0 π) h1 lg1 ca sa pc' ls (.int x :: st)) : WP l D cy B cc nL own ws R rt QE EX n r h lg ca sa pc ls st0 := wp_callV (post := (ZQ π h x σ2)) hc hg hw hn hy hR hrc hcat hroom hk hce hci hst hd hp (fun v r1 h1 lg1 q => by obtain ⟨rfl, rfl, X, f⟩ := q; exact kk h1 lg1 X f)
end VL0
/-- of the start: the script, the cells that were there -/
def EXL (B b L : Nat) (xs : Nat → Int32) : State → Method → Array Value → Prop := fun s _ args => args = #[.ref b] ∧ B = s.heap.size ∧ b < B ∧ va_X b L xs s s.heap
section VL1
variable {l : Launch} {D : va_G} {cy : CY} {B n b L : Nat} {xs : Nat → Int32} {r : Rf} {h : Hp} {lg : Lg} {π : Nat → Nat} {σ : Sg} {ca sa pc : Nat} {ls : List (Option Value)}
theorem wp_lret (hca : ca ≤ 600000) (hsa : sa ≤ 7302250) (hd : decode cL_law pc = .ok (.ireturn, 1)) : WP l D cy B cL_law 4 RL wsL_law room_1 ret lw_Z (EXL B b L xs) n r h lg ca sa pc ls [.int 1] := by
  intro p e s m args below meth c H locs lsA C0 hP hZ hS hL
  obtain ⟨hx, hb, hml, hown, hts, hr, hlk, hKN, hB, hE⟩ := C0
  obtain ⟨rfl, rfl, e1, e2⟩ := hE
  refine va_forget (fun q hq => hS.2.2 q hq) ?_
  refine W.widen (k := 600000) (n := 7302250) hca hsa ?_
  exact lw_ret hx hb hr hlk hd
theorem XI.lo {h' : Hp} (X : XI h π σ) (e : ∀ k, k < 89 → h' k = h k) : XI h' π σ := X.sc (by rw [e 1 (by omega)]) (fun a ha => e a (by unfold Kp at ha; omega))
theorem MI.up {h' : Hp} (X : MI h σ) (e : ∀ k, 89 ≤ k → h' k = h k) : MI h' σ := by
  obtain ⟨⟨a1, a2, a3⟩, x2, x3, x4, x5, ⟨b1, b2, b3, b4⟩, ⟨c1, c2, c3, c4⟩⟩ := X
  exact ⟨⟨by rw [e 89 (by omega)]; exact a1, a2, by rw [e 90 (by omega)]; exact a3⟩, x2.of (by rw [e 91 (by omega)]) (by rw [e 91 (by omega)]), fun k hk => by rw [e 92 (by omega)]; exact x3 k hk, x4, fun k hk => by rw [e 93 (by omega)]; exact x5 k hk, ⟨by rw [e 89 (by omega)]; exact b1, b2, b3, by unfold BR; rw [e 95 (by omega)]; exact b4⟩, ⟨by rw [e 89 (by omega)]; exact c1, c2, c3, by unfold BR; rw [e 96 (by omega)]; exact c4⟩⟩
theorem tn9 (x : Int32) : x = 0 ∨ x = 1 ∨ x = 2 ∨ x = 3 ∨ x = 4 ∨ x = 5 ∨ x = 6 ∨ x = 7 ∨ x = 8 ∨ x = 9 ∨ x = 10 ∨ x = 11 ∨ x = 12 ∨ x = 13 ∨ x = 14 ∨ x = 15 ∨ x = 16 ∨ x = 17 ∨ x = 18 ∨ x = 19 ∨ x = 20 ∨ x = 21 ∨ x = 22 ∨ x = 23 ∨ x = 24 ∨ x = 25 ∨ x = 26 ∨ x = 27 ∨ x = 28 ∨ (x.toInt < 0 ∨ 28 < x.toInt) := by
  cases e : ix x 29 with
  | none =>
    have := ix_none.mp e
    omega
  | some a =>
    obtain ⟨rfl, h6⟩ := ix_some e
    rcases (by omega : a = 0 ∨ a = 1 ∨ a = 2 ∨ a = 3 ∨ a = 4 ∨ a = 5 ∨ a = 6 ∨ a = 7 ∨ a = 8 ∨ a = 9 ∨ a = 10 ∨ a = 11 ∨ a = 12 ∨ a = 13 ∨ a = 14 ∨ a = 15 ∨ a = 16 ∨ a = 17 ∨ a = 18 ∨ a = 19 ∨ a = 20 ∨ a = 21 ∨ a = 22 ∨ a = 23 ∨ a = 24 ∨ a = 25 ∨ a = 26 ∨ a = 27 ∨ a = 28) with rfl | rfl | rfl | rfl | rfl | rfl | rfl | rfl | rfl | rfl | rfl | rfl | rfl | rfl | rfl | rfl | rfl | rfl | rfl | rfl | rfl | rfl | rfl | rfl | rfl | rfl | rfl | rfl | rfl
    · exact Or.inl rfl
    · exact Or.inr (Or.inl rfl)
    · exact Or.inr (Or.inr (Or.inl rfl))
    · exact Or.inr (Or.inr (Or.inr (Or.inl rfl)))
    · exact Or.inr (Or.inr (Or.inr (Or.inr (Or.inl rfl))))
    · exact Or.inr (Or.inr (Or.inr (Or.inr (Or.inr (Or.inl rfl)))))
    · exact Or.inr (Or.inr (Or.inr (Or.inr (Or.inr (Or.inr (Or.inl rfl))))))
    · exact Or.inr (Or.inr (Or.inr (Or.inr (Or.inr (Or.inr (Or.inr (Or.inl rfl)))))))
    · exact Or.inr (Or.inr (Or.inr (Or.inr (Or.inr (Or.inr (Or.inr (Or.inr (Or.inl rfl))))))))
    · exact Or.inr (Or.inr (Or.inr (Or.inr (Or.inr (Or.inr (Or.inr (Or.inr (Or.inr (Or.inl rfl)))))))))
    · exact Or.inr (Or.inr (Or.inr (Or.inr (Or.inr (Or.inr (Or.inr (Or.inr (Or.inr (Or.inr (Or.inl rfl))))))))))
    · exact Or.inr (Or.inr (Or.inr (Or.inr (Or.inr (Or.inr (Or.inr (Or.inr (Or.inr (Or.inr (Or.inr (Or.inl rfl)))))))))))
    · exact Or.inr (Or.inr (Or.inr (Or.inr (Or.inr (Or.inr (Or.inr (Or.inr (Or.inr (Or.inr (Or.inr (Or.inr (Or.inl rfl))))))))))))
    · exact Or.inr (Or.inr (Or.inr (Or.inr (Or.inr (Or.inr (Or.inr (Or.inr (Or.inr (Or.inr (Or.inr (Or.inr (Or.inr (Or.inl rfl)))))))))))))
    · exact Or.inr (Or.inr (Or.inr (Or.inr (Or.inr (Or.inr (Or.inr (Or.inr (Or.inr (Or.inr (Or.inr (Or.inr (Or.inr (Or.inr (Or.inl rfl))))))))))))))
    · exact Or.inr (Or.inr (Or.inr (Or.inr (Or.inr (Or.inr (Or.inr (Or.inr (Or.inr (Or.inr (Or.inr (Or.inr (Or.inr (Or.inr (Or.inr (Or.inl rfl)))))))))))))))
    · exact Or.inr (Or.inr (Or.inr (Or.inr (Or.inr (Or.inr (Or.inr (Or.inr (Or.inr (Or.inr (Or.inr (Or.inr (Or.inr (Or.inr (Or.inr (Or.inr (Or.inl rfl))))))))))))))))
    · exact Or.inr (Or.inr (Or.inr (Or.inr (Or.inr (Or.inr (Or.inr (Or.inr (Or.inr (Or.inr (Or.inr (Or.inr (Or.inr (Or.inr (Or.inr (Or.inr (Or.inr (Or.inl rfl)))))))))))))))))
    · exact Or.inr (Or.inr (Or.inr (Or.inr (Or.inr (Or.inr (Or.inr (Or.inr (Or.inr (Or.inr (Or.inr (Or.inr (Or.inr (Or.inr (Or.inr (Or.inr (Or.inr (Or.inr (Or.inl rfl))))))))))))))))))
    · exact Or.inr (Or.inr (Or.inr (Or.inr (Or.inr (Or.inr (Or.inr (Or.inr (Or.inr (Or.inr (Or.inr (Or.inr (Or.inr (Or.inr (Or.inr (Or.inr (Or.inr (Or.inr (Or.inr (Or.inl rfl)))))))))))))))))))
    · exact Or.inr (Or.inr (Or.inr (Or.inr (Or.inr (Or.inr (Or.inr (Or.inr (Or.inr (Or.inr (Or.inr (Or.inr (Or.inr (Or.inr (Or.inr (Or.inr (Or.inr (Or.inr (Or.inr (Or.inr (Or.inl rfl))))))))))))))))))))
    · exact Or.inr (Or.inr (Or.inr (Or.inr (Or.inr (Or.inr (Or.inr (Or.inr (Or.inr (Or.inr (Or.inr (Or.inr (Or.inr (Or.inr (Or.inr (Or.inr (Or.inr (Or.inr (Or.inr (Or.inr (Or.inr (Or.inl rfl)))))))))))))))))))))
    · exact Or.inr (Or.inr (Or.inr (Or.inr (Or.inr (Or.inr (Or.inr (Or.inr (Or.inr (Or.inr (Or.inr (Or.inr (Or.inr (Or.inr (Or.inr (Or.inr (Or.inr (Or.inr (Or.inr (Or.inr (Or.inr (Or.inr (Or.inl rfl))))))))))))))))))))))
    · exact Or.inr (Or.inr (Or.inr (Or.inr (Or.inr (Or.inr (Or.inr (Or.inr (Or.inr (Or.inr (Or.inr (Or.inr (Or.inr (Or.inr (Or.inr (Or.inr (Or.inr (Or.inr (Or.inr (Or.inr (Or.inr (Or.inr (Or.inr (Or.inl rfl)))))))))))))))))))))))
    · exact Or.inr (Or.inr (Or.inr (Or.inr (Or.inr (Or.inr (Or.inr (Or.inr (Or.inr (Or.inr (Or.inr (Or.inr (Or.inr (Or.inr (Or.inr (Or.inr (Or.inr (Or.inr (Or.inr (Or.inr (Or.inr (Or.inr (Or.inr (Or.inr (Or.inl rfl))))))))))))))))))))))))
    · exact Or.inr (Or.inr (Or.inr (Or.inr (Or.inr (Or.inr (Or.inr (Or.inr (Or.inr (Or.inr (Or.inr (Or.inr (Or.inr (Or.inr (Or.inr (Or.inr (Or.inr (Or.inr (Or.inr (Or.inr (Or.inr (Or.inr (Or.inr (Or.inr (Or.inr (Or.inl rfl)))))))))))))))))))))))))
    · exact Or.inr (Or.inr (Or.inr (Or.inr (Or.inr (Or.inr (Or.inr (Or.inr (Or.inr (Or.inr (Or.inr (Or.inr (Or.inr (Or.inr (Or.inr (Or.inr (Or.inr (Or.inr (Or.inr (Or.inr (Or.inr (Or.inr (Or.inr (Or.inr (Or.inr (Or.inr (Or.inl rfl))))))))))))))))))))))))))
    · exact Or.inr (Or.inr (Or.inr (Or.inr (Or.inr (Or.inr (Or.inr (Or.inr (Or.inr (Or.inr (Or.inr (Or.inr (Or.inr (Or.inr (Or.inr (Or.inr (Or.inr (Or.inr (Or.inr (Or.inr (Or.inr (Or.inr (Or.inr (Or.inr (Or.inr (Or.inr (Or.inr (Or.inl rfl)))))))))))))))))))))))))))
    · exact Or.inr (Or.inr (Or.inr (Or.inr (Or.inr (Or.inr (Or.inr (Or.inr (Or.inr (Or.inr (Or.inr (Or.inr (Or.inr (Or.inr (Or.inr (Or.inr (Or.inr (Or.inr (Or.inr (Or.inr (Or.inr (Or.inr (Or.inr (Or.inr (Or.inr (Or.inr (Or.inr (Or.inr (Or.inl rfl))))))))))))))))))))))))))))
end VL1

