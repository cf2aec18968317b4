section GC
variable {l : Launch} {G : mw_G} {M : mw_M} {x qc qm ql : Nat} {ca ma : Nat → Nat} {σ : sg_T} {rf : Int32} {lp : Nat → Int32}
def lw_I (G : mw_G) (M : mw_M) (x qc qm ql y : Nat) (q : Nat → Nat) (σ : sg_T) (rf : Int32) : Prop := (∃ (ca ma : Nat → Nat) (lp : Nat → Int32), xw_ G M x qc qm ql ca ma σ rf lp) ∧ ∃ (f : Nat → Nat → Int32) (ch : Nat → Int32) (lk : Int32) (ov : Nat → Int32), yw_ G M y q σ rf f ch lk ov
theorem mv_nz {p : Program} {l : Launch} {e : Env} {R : Room} {s : State} {m : MethodId} {args : Array Value} {below : List Frame} {meth : Method} {c : Code} {H : Heap} {locs : List Loc} {cells slots : Nat} {Q : State → Prop} {cc : ByteArray} {pc t1 t2 : Nat} {ls : Array Slot} {rest : List Value} {v : Int32} {o1 o2 : Int} (hx : p.tables.exec = Jvm.exec) (hb : c.code = cc) (d1 : decode cc pc = .ok (.ifCond .eq o1, 3)) (h1 : (pc : Int) + o1 = (t1 : Int)) (d2 : decode cc (pc + 3) = .ok (.iconst 1, 1)) (d3 : decode cc (pc + 4) = .ok (.goto o2, 3)) (h2 : ((pc + 4 : Nat) : Int) + o2 = (t2 : Int)) (d4 : decode cc t1 = .ok (.iconst 0, 1)) (h3 : t1 + 1 = t2)
    (kk : W p l e R s m args below meth c H locs cells slots Q (F0 m t2 ls (.int (mb_i (decide (¬ v = 0))) :: rest))) : W p l e R s m args below meth c H locs cells slots Q (F0 m pc ls (.int v :: rest)) := by
  refine lv_if_eq hx hb d1 h1 (fun h => ?_) (fun h => ?_)
  · refine lv_iconst (v := 0) hx hb d4 (by decide) ?_
    rw [h3]
    rw [show decide (¬ v = 0) = false by simp [h]] at kk
    exact kk
  · refine lv_iconst (v := 1) hx hb d2 (by decide) ?_
    refine lv_goto hx hb d3 h2 ?_
    rw [show decide (¬ v = 0) = true by simp [h]] at kk
    exact kk
end GC
