-- hangs: what it computes over what the looks answer, and the walk of its bytecode
theorem mEndQ_z {p : Program} {l : Launch} {e : Env} {R : Room} {s : State} {m : MethodId} {args : Array Value} {below : List Frame} {meth : Method} {c : Code} {H : Heap} {locs : List Loc} {cells slots : Nat} {cc : ByteArray} {pc : Nat} {ls : Array Slot} {G : va_G} {A : Nat → Prop} {tys : List (ClassId × FieldType)} {ws : va_W} {mc ms : Nat} {S : Type} {post : Int32 → S → Prop} {w1 : S → va_W} (u : S) {v : Int32} {ty : FieldType} (hx : p.tables.exec = Jvm.exec) (hb : c.code = cc) (hr : meth.sig.returnType = some ty) (hn : narrow ty (.int v) = .int v) (hlocks : meth.locks = false) (hP : va_P G vwCl ws H) (hK : va_K G vwCl tys s) (hD : va_D A ws) (hS : va_S A s.heap H locs) (hv : post v u) (hw : ws = w1 u) (hc : cells ≤ mc) (hs : slots ≤ ms) (hdg : decode cc pc = .ok (.ireturn, 1)) :
    W p l e R s m args below meth c H locs cells slots (MQ below (va_Qi (S := S) post (mB G tys A w1) A) args s mc ms A) (F0 m pc ls [.int v]) := by
  refine W.widen hc hs ?_
  exact W.zret hx hb hr hn (fun t ht hW => ⟨⟨v, u, rfl, hv, by rw [ht, ← hw]; exact hP, va_K.moved hW.alike hK, by rw [← hw]; exact hD⟩, hS.F ht⟩) hS.2.2 hdg hlocks
def bL_hangs_1 (aM : Int32 → Int32 → Int32 → Option Int32) (aL : Int32 → Int32 → Option Int32) (aC : Int32 → Option Int32) (aW : Int32 → Int32 → Option Int32) (aA : Int32 → Int32 → Option Int32) (aT : Int32 → Int32 → Option Int32) (aO : Int32 → Int32 → Option Int32) (aS : Int32 → Option Int32) (aG : Int32 → Int32 → Option Int32) (vsh : UInt64) (vcs : Int32) (vwo : Int32) (k : Nat → Int32 → Int32 → Int32 → Int32 → Int32 → Int32 → Int32 → Int32 → Int32 → Int32 → Int32 → Int32 → Int32 → Int32 → Int32 → UInt64 → UInt64 → Option (Int32)) (x1 : Int32) (x2 : Int32) (x3 : Int32) (x4 : Int32) (x5 : Int32) (x6 : Int32) (x7 : Int32) (x8 : Int32) (x9 : Int32) (x10 : Int32) (x11 : Int32) (x12 : Int32) (x13 : Int32) (s0 : Int32) (s1 : Int32) (q0 : UInt64) (q1 : UInt64) : Option (Int32) :=
  (if (6 : Int32) ≤ x5 then k 8 x1 x2 x3 x4 0 0 0 0 0 0 0 0 0 0 0 0 0 else (if x4 = 0 then k 8 x1 x2 x3 x4 0 0 0 0 0 0 0 0 0 0 0 0 0 else k 2 x1 x2 x3 x4 x5 (0 : Int32) (0 : Int32) (0 : Int32) 0 0 0 0 0 0 0 0 0))
def bL_hangs_2 (aM : Int32 → Int32 → Int32 → Option Int32) (aL : Int32 → Int32 → Option Int32) (aC : Int32 → Option Int32) (aW : Int32 → Int32 → Option Int32) (aA : Int32 → Int32 → Option Int32) (aT : Int32 → Int32 → Option Int32) (aO : Int32 → Int32 → Option Int32) (aS : Int32 → Option Int32) (aG : Int32 → Int32 → Option Int32) (vsh : UInt64) (vcs : Int32) (vwo : Int32) (k : Nat → Int32 → Int32 → Int32 → Int32 → Int32 → Int32 → Int32 → Int32 → Int32 → Int32 → Int32 → Int32 → Int32 → Int32 → Int32 → UInt64 → UInt64 → Option (Int32)) (x1 : Int32) (x2 : Int32) (x3 : Int32) (x4 : Int32) (x5 : Int32) (x6 : Int32) (x7 : Int32) (x8 : Int32) (x9 : Int32) (x10 : Int32) (x11 : Int32) (x12 : Int32) (x13 : Int32) (s0 : Int32) (s1 : Int32) (q0 : UInt64) (q1 : UInt64) : Option (Int32) :=
  (if (30 : Int32) ≤ x8 then k 6 x1 x2 x3 x4 x5 x6 x7 0 0 0 0 0 0 0 0 0 0 else (if x4 = 0 then k 6 x1 x2 x3 x4 x5 x6 x7 0 0 0 0 0 0 0 0 0 0 else ((aM x5 x8 (0 : Int32)).bind fun (u5 : Int32) => ((aM x5 x8 (1 : Int32)).bind fun (u6 : Int32) => ((aM x5 x8 (2 : Int32)).bind fun (u7 : Int32) => (if u5 < ((-1) : Int32) then k 4 x1 x2 x3 0 x5 x6 x7 x8 u5 u6 0 0 0 (0 : Int32) 0 0 0 else (if (30 : Int32) ≤ u5 then k 4 x1 x2 x3 0 x5 x6 x7 x8 u5 u6 0 0 0 (0 : Int32) 0 0 0 else (if u5 = ((-1) : Int32) then (if u6 = (30 : Int32) then k 3 x1 x2 x3 0 x5 x6 x7 x8 u5 u6 u7 0 0 0 0 0 0 else k 4 x1 x2 x3 0 x5 x6 x7 x8 u5 u6 0 0 0 (0 : Int32) 0 0 0) else (if u6 < 0 then k 4 x1 x2 x3 0 x5 x6 x7 x8 u5 u6 0 0 0 (0 : Int32) 0 0 0 else (if x8 < u6 then k 4 x1 x2 x3 0 x5 x6 x7 x8 u5 u6 0 0 0 (0 : Int32) 0 0 0 else ((aM x5 u6 (0 : Int32)).bind fun (u13 : Int32) => (if u13 = u5 then ((aM x5 u5 (2 : Int32)).bind fun (u15 : Int32) => (if u15 = u6 then k 3 x1 x2 x3 0 x5 x6 x7 x8 u5 u6 u7 0 0 0 0 0 0 else k 4 x1 x2 x3 0 x5 x6 x7 x8 u5 u6 0 0 0 (0 : Int32) 0 0 0)) else k 4 x1 x2 x3 0 x5 x6 x7 x8 u5 u6 0 0 0 (0 : Int32) 0 0 0))))))))))))
def bL_hangs_3 (aM : Int32 → Int32 → Int32 → Option Int32) (aL : Int32 → Int32 → Option Int32) (aC : Int32 → Option Int32) (aW : Int32 → Int32 → Option Int32) (aA : Int32 → Int32 → Option Int32) (aT : Int32 → Int32 → Option Int32) (aO : Int32 → Int32 → Option Int32) (aS : Int32 → Option Int32) (aG : Int32 → Int32 → Option Int32) (vsh : UInt64) (vcs : Int32) (vwo : Int32) (k : Nat → Int32 → Int32 → Int32 → Int32 → Int32 → Int32 → Int32 → Int32 → Int32 → Int32 → Int32 → Int32 → Int32 → Int32 → Int32 → UInt64 → UInt64 → Option (Int32)) (x1 : Int32) (x2 : Int32) (x3 : Int32) (x4 : Int32) (x5 : Int32) (x6 : Int32) (x7 : Int32) (x8 : Int32) (x9 : Int32) (x10 : Int32) (x11 : Int32) (x12 : Int32) (x13 : Int32) (s0 : Int32) (s1 : Int32) (q0 : UInt64) (q1 : UInt64) : Option (Int32) :=
  (if x11 < 0 then k 4 x1 x2 x3 0 x5 x6 x7 x8 x9 x10 0 0 0 (0 : Int32) 0 0 0 else (if (30 : Int32) < x11 then k 4 x1 x2 x3 0 x5 x6 x7 x8 x9 x10 0 0 0 (0 : Int32) 0 0 0 else (if x11 = (30 : Int32) then k 4 x1 x2 x3 0 x5 x6 x7 x8 x9 x10 0 0 0 (1 : Int32) 0 0 0 else ((aM x5 x11 (0 : Int32)).bind fun (u21 : Int32) => (if u21 = x8 then k 4 x1 x2 x3 0 x5 x6 x7 x8 x9 x10 0 0 0 (1 : Int32) 0 0 0 else k 4 x1 x2 x3 0 x5 x6 x7 x8 x9 x10 0 0 0 (0 : Int32) 0 0 0)))))
def bL_hangs_4 (aM : Int32 → Int32 → Int32 → Option Int32) (aL : Int32 → Int32 → Option Int32) (aC : Int32 → Option Int32) (aW : Int32 → Int32 → Option Int32) (aA : Int32 → Int32 → Option Int32) (aT : Int32 → Int32 → Option Int32) (aO : Int32 → Int32 → Option Int32) (aS : Int32 → Option Int32) (aG : Int32 → Int32 → Option Int32) (vsh : UInt64) (vcs : Int32) (vwo : Int32) (k : Nat → Int32 → Int32 → Int32 → Int32 → Int32 → Int32 → Int32 → Int32 → Int32 → Int32 → Int32 → Int32 → Int32 → Int32 → Int32 → UInt64 → UInt64 → Option (Int32)) (x1 : Int32) (x2 : Int32) (x3 : Int32) (x4 : Int32) (x5 : Int32) (x6 : Int32) (x7 : Int32) (x8 : Int32) (x9 : Int32) (x10 : Int32) (x11 : Int32) (x12 : Int32) (x13 : Int32) (s0 : Int32) (s1 : Int32) (q0 : UInt64) (q1 : UInt64) : Option (Int32) :=
  (if x9 = ((-1) : Int32) then k 5 x1 x2 x3 s0 x5 0 x7 x8 x9 x10 0 0 0 (1 : Int32) x6 0 0 else k 5 x1 x2 x3 s0 x5 0 x7 x8 x9 x10 0 0 0 (0 : Int32) x6 0 0)
def bL_hangs_5 (aM : Int32 → Int32 → Int32 → Option Int32) (aL : Int32 → Int32 → Option Int32) (aC : Int32 → Option Int32) (aW : Int32 → Int32 → Option Int32) (aA : Int32 → Int32 → Option Int32) (aT : Int32 → Int32 → Option Int32) (aO : Int32 → Int32 → Option Int32) (aS : Int32 → Option Int32) (aG : Int32 → Int32 → Option Int32) (vsh : UInt64) (vcs : Int32) (vwo : Int32) (k : Nat → Int32 → Int32 → Int32 → Int32 → Int32 → Int32 → Int32 → Int32 → Int32 → Int32 → Int32 → Int32 → Int32 → Int32 → Int32 → UInt64 → UInt64 → Option (Int32)) (x1 : Int32) (x2 : Int32) (x3 : Int32) (x4 : Int32) (x5 : Int32) (x6 : Int32) (x7 : Int32) (x8 : Int32) (x9 : Int32) (x10 : Int32) (x11 : Int32) (x12 : Int32) (x13 : Int32) (s0 : Int32) (s1 : Int32) (q0 : UInt64) (q1 : UInt64) : Option (Int32) :=
  (if x9 < 0 then k 2 x1 x2 x3 x4 x5 (s1 + s0) (x7 + (0 : Int32)) (x8 + 1) 0 0 0 0 0 0 0 0 0 else (if x8 ≤ x10 then k 2 x1 x2 x3 x4 x5 (s1 + s0) (x7 + (0 : Int32)) (x8 + 1) 0 0 0 0 0 0 0 0 0 else k 2 x1 x2 x3 x4 x5 (s1 + s0) (x7 + (1 : Int32)) (x8 + 1) 0 0 0 0 0 0 0 0 0))
def bL_hangs_6 (aM : Int32 → Int32 → Int32 → Option Int32) (aL : Int32 → Int32 → Option Int32) (aC : Int32 → Option Int32) (aW : Int32 → Int32 → Option Int32) (aA : Int32 → Int32 → Option Int32) (aT : Int32 → Int32 → Option Int32) (aO : Int32 → Int32 → Option Int32) (aS : Int32 → Option Int32) (aG : Int32 → Int32 → Option Int32) (vsh : UInt64) (vcs : Int32) (vwo : Int32) (k : Nat → Int32 → Int32 → Int32 → Int32 → Int32 → Int32 → Int32 → Int32 → Int32 → Int32 → Int32 → Int32 → Int32 → Int32 → Int32 → UInt64 → UInt64 → Option (Int32)) (x1 : Int32) (x2 : Int32) (x3 : Int32) (x4 : Int32) (x5 : Int32) (x6 : Int32) (x7 : Int32) (x8 : Int32) (x9 : Int32) (x10 : Int32) (x11 : Int32) (x12 : Int32) (x13 : Int32) (s0 : Int32) (s1 : Int32) (q0 : UInt64) (q1 : UInt64) : Option (Int32) :=
  (if x4 = 0 then k 7 x1 x2 x3 0 x5 0 0 0 0 0 0 0 0 (0 : Int32) 0 0 0 else ((aL x5 (2 : Int32)).bind fun (u27 : Int32) => (if u27 = x6 then ((aL x5 (3 : Int32)).bind fun (u29 : Int32) => (if u29 = x7 then ((aL x5 (0 : Int32)).bind fun (u31 : Int32) => (if u31 < 0 then k 7 x1 x2 x3 0 x5 0 0 0 0 0 0 0 0 (0 : Int32) 0 0 0 else ((aL x5 (0 : Int32)).bind fun (u33 : Int32) => (if (10 : Int32) ≤ u33 then k 7 x1 x2 x3 0 x5 0 0 0 0 0 0 0 0 (0 : Int32) 0 0 0 else ((aL x5 (1 : Int32)).bind fun (u35 : Int32) => (if u35 < 0 then k 7 x1 x2 x3 0 x5 0 0 0 0 0 0 0 0 (0 : Int32) 0 0 0 else ((aL x5 (1 : Int32)).bind fun (u37 : Int32) => (if (10 : Int32) ≤ u37 then k 7 x1 x2 x3 0 x5 0 0 0 0 0 0 0 0 (0 : Int32) 0 0 0 else ((aL x5 (4 : Int32)).bind fun (u39 : Int32) => (if u39 < 0 then k 7 x1 x2 x3 0 x5 0 0 0 0 0 0 0 0 (0 : Int32) 0 0 0 else ((aL x5 (5 : Int32)).bind fun (u41 : Int32) => (if u41 < 0 then k 7 x1 x2 x3 0 x5 0 0 0 0 0 0 0 0 (0 : Int32) 0 0 0 else ((aL x5 (6 : Int32)).bind fun (u43 : Int32) => (if u43 < 0 then k 7 x1 x2 x3 0 x5 0 0 0 0 0 0 0 0 (0 : Int32) 0 0 0 else k 7 x1 x2 x3 0 x5 0 0 0 0 0 0 0 0 (1 : Int32) 0 0 0)))))))))))))) else k 7 x1 x2 x3 0 x5 0 0 0 0 0 0 0 0 (0 : Int32) 0 0 0)) else k 7 x1 x2 x3 0 x5 0 0 0 0 0 0 0 0 (0 : Int32) 0 0 0)))
def bL_hangs_7 (aM : Int32 → Int32 → Int32 → Option Int32) (aL : Int32 → Int32 → Option Int32) (aC : Int32 → Option Int32) (aW : Int32 → Int32 → Option Int32) (aA : Int32 → Int32 → Option Int32) (aT : Int32 → Int32 → Option Int32) (aO : Int32 → Int32 → Option Int32) (aS : Int32 → Option Int32) (aG : Int32 → Int32 → Option Int32) (vsh : UInt64) (vcs : Int32) (vwo : Int32) (k : Nat → Int32 → Int32 → Int32 → Int32 → Int32 → Int32 → Int32 → Int32 → Int32 → Int32 → Int32 → Int32 → Int32 → Int32 → Int32 → UInt64 → UInt64 → Option (Int32)) (x1 : Int32) (x2 : Int32) (x3 : Int32) (x4 : Int32) (x5 : Int32) (x6 : Int32) (x7 : Int32) (x8 : Int32) (x9 : Int32) (x10 : Int32) (x11 : Int32) (x12 : Int32) (x13 : Int32) (s0 : Int32) (s1 : Int32) (q0 : UInt64) (q1 : UInt64) : Option (Int32) :=
  ((aL x5 (4 : Int32)).bind fun (u45 : Int32) => ((aL x5 (5 : Int32)).bind fun (u46 : Int32) => ((aL x5 (6 : Int32)).bind fun (u47 : Int32) => k 1 (x1 + u46) (x2 + u45) (x3 + u47) s0 (x5 + 1) 0 0 0 0 0 0 0 0 0 0 0 0)))
def bL_hangs_8 (aM : Int32 → Int32 → Int32 → Option Int32) (aL : Int32 → Int32 → Option Int32) (aC : Int32 → Option Int32) (aW : Int32 → Int32 → Option Int32) (aA : Int32 → Int32 → Option Int32) (aT : Int32 → Int32 → Option Int32) (aO : Int32 → Int32 → Option Int32) (aS : Int32 → Option Int32) (aG : Int32 → Int32 → Option Int32) (vsh : UInt64) (vcs : Int32) (vwo : Int32) (k : Nat → Int32 → Int32 → Int32 → Int32 → Int32 → Int32 → Int32 → Int32 → Int32 → Int32 → Int32 → Int32 → Int32 → Int32 → Int32 → UInt64 → UInt64 → Option (Int32)) (x1 : Int32) (x2 : Int32) (x3 : Int32) (x4 : Int32) (x5 : Int32) (x6 : Int32) (x7 : Int32) (x8 : Int32) (x9 : Int32) (x10 : Int32) (x11 : Int32) (x12 : Int32) (x13 : Int32) (s0 : Int32) (s1 : Int32) (q0 : UInt64) (q1 : UInt64) : Option (Int32) :=
  ((aC (0 : Int32)).bind fun (u48 : Int32) => k 9 x1 x2 x3 x4 u48 (10 : Int32) (0 : Int32) 0 0 0 0 0 0 0 0 0 0)
def bL_hangs_9 (aM : Int32 → Int32 → Int32 → Option Int32) (aL : Int32 → Int32 → Option Int32) (aC : Int32 → Option Int32) (aW : Int32 → Int32 → Option Int32) (aA : Int32 → Int32 → Option Int32) (aT : Int32 → Int32 → Option Int32) (aO : Int32 → Int32 → Option Int32) (aS : Int32 → Option Int32) (aG : Int32 → Int32 → Option Int32) (vsh : UInt64) (vcs : Int32) (vwo : Int32) (k : Nat → Int32 → Int32 → Int32 → Int32 → Int32 → Int32 → Int32 → Int32 → Int32 → Int32 → Int32 → Int32 → Int32 → Int32 → Int32 → UInt64 → UInt64 → Option (Int32)) (x1 : Int32) (x2 : Int32) (x3 : Int32) (x4 : Int32) (x5 : Int32) (x6 : Int32) (x7 : Int32) (x8 : Int32) (x9 : Int32) (x10 : Int32) (x11 : Int32) (x12 : Int32) (x13 : Int32) (s0 : Int32) (s1 : Int32) (q0 : UInt64) (q1 : UInt64) : Option (Int32) :=
  (if x5 ≤ x7 then k 11 x1 x2 x3 x4 x5 0 0 0 0 0 0 0 0 0 0 0 0 else (if (8 : Int32) ≤ x7 then k 11 x1 x2 x3 x4 x5 0 0 0 0 0 0 0 0 0 0 0 0 else (if x4 = 0 then k 11 x1 x2 x3 x4 x5 0 0 0 0 0 0 0 0 0 0 0 0 else ((aW x7 (0 : Int32)).bind fun (u52 : Int32) => (if u52 ≤ 0 then k 10 x1 x2 x3 0 x5 0 x7 0 0 0 0 0 0 (0 : Int32) 0 0 0 else ((aW x7 (0 : Int32)).bind fun (u54 : Int32) => (if (13 : Int32) ≤ u54 then k 10 x1 x2 x3 0 x5 0 x7 0 0 0 0 0 0 (0 : Int32) 0 0 0 else ((aW x7 (1 : Int32)).bind fun (u56 : Int32) => (if u56 ≤ 0 then k 10 x1 x2 x3 0 x5 0 x7 0 0 0 0 0 0 (0 : Int32) 0 0 0 else ((aW x7 (1 : Int32)).bind fun (u58 : Int32) => (if x6 < u58 then k 10 x1 x2 x3 0 x5 0 x7 0 0 0 0 0 0 (0 : Int32) 0 0 0 else ((aW x7 (2 : Int32)).bind fun (u60 : Int32) => (if u60 < 0 then k 10 x1 x2 x3 0 x5 0 x7 0 0 0 0 0 0 (0 : Int32) 0 0 0 else ((aW x7 (2 : Int32)).bind fun (u62 : Int32) => (if (30 : Int32) ≤ u62 then k 10 x1 x2 x3 0 x5 0 x7 0 0 0 0 0 0 (0 : Int32) 0 0 0 else k 10 x1 x2 x3 0 x5 0 x7 0 0 0 0 0 0 (1 : Int32) 0 0 0)))))))))))))))
def bL_hangs_10 (aM : Int32 → Int32 → Int32 → Option Int32) (aL : Int32 → Int32 → Option Int32) (aC : Int32 → Option Int32) (aW : Int32 → Int32 → Option Int32) (aA : Int32 → Int32 → Option Int32) (aT : Int32 → Int32 → Option Int32) (aO : Int32 → Int32 → Option Int32) (aS : Int32 → Option Int32) (aG : Int32 → Int32 → Option Int32) (vsh : UInt64) (vcs : Int32) (vwo : Int32) (k : Nat → Int32 → Int32 → Int32 → Int32 → Int32 → Int32 → Int32 → Int32 → Int32 → Int32 → Int32 → Int32 → Int32 → Int32 → Int32 → UInt64 → UInt64 → Option (Int32)) (x1 : Int32) (x2 : Int32) (x3 : Int32) (x4 : Int32) (x5 : Int32) (x6 : Int32) (x7 : Int32) (x8 : Int32) (x9 : Int32) (x10 : Int32) (x11 : Int32) (x12 : Int32) (x13 : Int32) (s0 : Int32) (s1 : Int32) (q0 : UInt64) (q1 : UInt64) : Option (Int32) :=
  ((aW x7 (1 : Int32)).bind fun (u64 : Int32) => k 9 x1 x2 x3 s0 x5 u64 (x7 + 1) 0 0 0 0 0 0 0 0 0 0)
def bL_hangs_11 (aM : Int32 → Int32 → Int32 → Option Int32) (aL : Int32 → Int32 → Option Int32) (aC : Int32 → Option Int32) (aW : Int32 → Int32 → Option Int32) (aA : Int32 → Int32 → Option Int32) (aT : Int32 → Int32 → Option Int32) (aO : Int32 → Int32 → Option Int32) (aS : Int32 → Option Int32) (aG : Int32 → Int32 → Option Int32) (vsh : UInt64) (vcs : Int32) (vwo : Int32) (k : Nat → Int32 → Int32 → Int32 → Int32 → Int32 → Int32 → Int32 → Int32 → Int32 → Int32 → Int32 → Int32 → Int32 → Int32 → Int32 → UInt64 → UInt64 → Option (Int32)) (x1 : Int32) (x2 : Int32) (x3 : Int32) (x4 : Int32) (x5 : Int32) (x6 : Int32) (x7 : Int32) (x8 : Int32) (x9 : Int32) (x10 : Int32) (x11 : Int32) (x12 : Int32) (x13 : Int32) (s0 : Int32) (s1 : Int32) (q0 : UInt64) (q1 : UInt64) : Option (Int32) :=
  ((aC (2 : Int32)).bind fun (u65 : Int32) => k 12 x1 x2 x3 x4 x5 0 u65 (0 : Int32) 0 0 0 0 0 0 0 0 0)
def bL_hangs_12 (aM : Int32 → Int32 → Int32 → Option Int32) (aL : Int32 → Int32 → Option Int32) (aC : Int32 → Option Int32) (aW : Int32 → Int32 → Option Int32) (aA : Int32 → Int32 → Option Int32) (aT : Int32 → Int32 → Option Int32) (aO : Int32 → Int32 → Option Int32) (aS : Int32 → Option Int32) (aG : Int32 → Int32 → Option Int32) (vsh : UInt64) (vcs : Int32) (vwo : Int32) (k : Nat → Int32 → Int32 → Int32 → Int32 → Int32 → Int32 → Int32 → Int32 → Int32 → Int32 → Int32 → Int32 → Int32 → Int32 → Int32 → UInt64 → UInt64 → Option (Int32)) (x1 : Int32) (x2 : Int32) (x3 : Int32) (x4 : Int32) (x5 : Int32) (x6 : Int32) (x7 : Int32) (x8 : Int32) (x9 : Int32) (x10 : Int32) (x11 : Int32) (x12 : Int32) (x13 : Int32) (s0 : Int32) (s1 : Int32) (q0 : UInt64) (q1 : UInt64) : Option (Int32) :=
  (if (6 : Int32) ≤ x8 then k 16 x1 x2 x3 x4 x5 0 x7 0 0 0 0 0 0 0 0 0 0 else (if x4 = 0 then k 16 x1 x2 x3 x4 x5 0 x7 0 0 0 0 0 0 0 0 0 0 else ((aA x8 (0 : Int32)).bind fun (u68 : Int32) => k 13 x1 x2 x3 0 x5 0 x7 x8 u68 (0 : Int32) (0 : Int32) (0 : Int32) 0 0 0 0 0)))
def bL_hangs_13 (aM : Int32 → Int32 → Int32 → Option Int32) (aL : Int32 → Int32 → Option Int32) (aC : Int32 → Option Int32) (aW : Int32 → Int32 → Option Int32) (aA : Int32 → Int32 → Option Int32) (aT : Int32 → Int32 → Option Int32) (aO : Int32 → Int32 → Option Int32) (aS : Int32 → Option Int32) (aG : Int32 → Int32 → Option Int32) (vsh : UInt64) (vcs : Int32) (vwo : Int32) (k : Nat → Int32 → Int32 → Int32 → Int32 → Int32 → Int32 → Int32 → Int32 → Int32 → Int32 → Int32 → Int32 → Int32 → Int32 → Int32 → UInt64 → UInt64 → Option (Int32)) (x1 : Int32) (x2 : Int32) (x3 : Int32) (x4 : Int32) (x5 : Int32) (x6 : Int32) (x7 : Int32) (x8 : Int32) (x9 : Int32) (x10 : Int32) (x11 : Int32) (x12 : Int32) (x13 : Int32) (s0 : Int32) (s1 : Int32) (q0 : UInt64) (q1 : UInt64) : Option (Int32) :=
  (if (40 : Int32) ≤ x12 then k 15 x1 x2 x3 0 x5 0 x7 x8 x9 x10 x11 x12 0 0 0 0 0 else ((aT x8 x12).bind fun (u70 : Int32) => (if u70 < 0 then k 15 x1 x2 x3 0 x5 0 x7 x8 x9 x10 x11 x12 0 0 0 0 0 else ((aT x8 x12).bind fun (u72 : Int32) => (if u72 = (63 : Int32) then k 14 x1 x2 x3 0 x5 0 x7 x8 x9 0 x11 x12 0 (1 : Int32) x10 0 0 else k 14 x1 x2 x3 0 x5 0 x7 x8 x9 0 x11 x12 0 (0 : Int32) x10 0 0)))))
def bL_hangs_14 (aM : Int32 → Int32 → Int32 → Option Int32) (aL : Int32 → Int32 → Option Int32) (aC : Int32 → Option Int32) (aW : Int32 → Int32 → Option Int32) (aA : Int32 → Int32 → Option Int32) (aT : Int32 → Int32 → Option Int32) (aO : Int32 → Int32 → Option Int32) (aS : Int32 → Option Int32) (aG : Int32 → Int32 → Option Int32) (vsh : UInt64) (vcs : Int32) (vwo : Int32) (k : Nat → Int32 → Int32 → Int32 → Int32 → Int32 → Int32 → Int32 → Int32 → Int32 → Int32 → Int32 → Int32 → Int32 → Int32 → Int32 → UInt64 → UInt64 → Option (Int32)) (x1 : Int32) (x2 : Int32) (x3 : Int32) (x4 : Int32) (x5 : Int32) (x6 : Int32) (x7 : Int32) (x8 : Int32) (x9 : Int32) (x10 : Int32) (x11 : Int32) (x12 : Int32) (x13 : Int32) (s0 : Int32) (s1 : Int32) (q0 : UInt64) (q1 : UInt64) : Option (Int32) :=
  (if x12 = 0 then k 13 x1 x2 x3 0 x5 0 x7 x8 x9 (s1 + s0) (x11 + (1 : Int32)) (x12 + 1) 0 0 0 0 0 else ((aT x8 x12).bind fun (u75 : Int32) => (if u75 = (44 : Int32) then k 13 x1 x2 x3 0 x5 0 x7 x8 x9 (s1 + s0) (x11 + (1 : Int32)) (x12 + 1) 0 0 0 0 0 else k 13 x1 x2 x3 0 x5 0 x7 x8 x9 (s1 + s0) (x11 + (0 : Int32)) (x12 + 1) 0 0 0 0 0)))
def bL_hangs_15 (aM : Int32 → Int32 → Int32 → Option Int32) (aL : Int32 → Int32 → Option Int32) (aC : Int32 → Option Int32) (aW : Int32 → Int32 → Option Int32) (aA : Int32 → Int32 → Option Int32) (aT : Int32 → Int32 → Option Int32) (aO : Int32 → Int32 → Option Int32) (aS : Int32 → Option Int32) (aG : Int32 → Int32 → Option Int32) (vsh : UInt64) (vcs : Int32) (vwo : Int32) (k : Nat → Int32 → Int32 → Int32 → Int32 → Int32 → Int32 → Int32 → Int32 → Int32 → Int32 → Int32 → Int32 → Int32 → Int32 → Int32 → UInt64 → UInt64 → Option (Int32)) (x1 : Int32) (x2 : Int32) (x3 : Int32) (x4 : Int32) (x5 : Int32) (x6 : Int32) (x7 : Int32) (x8 : Int32) (x9 : Int32) (x10 : Int32) (x11 : Int32) (x12 : Int32) (x13 : Int32) (s0 : Int32) (s1 : Int32) (q0 : UInt64) (q1 : UInt64) : Option (Int32) :=
  (if x7 ≤ x8 then (if x9 = ((-1) : Int32) then (if x12 = 0 then ((aA x8 (4 : Int32)).bind fun (u80 : Int32) => (if u80 = ((-1) : Int32) then k 12 x1 x2 x3 (1 : Int32) x5 0 x7 (x8 + 1) 0 0 0 0 0 0 0 0 0 else k 12 x1 x2 x3 (0 : Int32) x5 0 x7 (x8 + 1) 0 0 0 0 0 0 0 0 0)) else k 12 x1 x2 x3 (0 : Int32) x5 0 x7 (x8 + 1) 0 0 0 0 0 0 0 0 0) else k 12 x1 x2 x3 (0 : Int32) x5 0 x7 (x8 + 1) 0 0 0 0 0 0 0 0 0) else (if x9 < 0 then k 12 x1 x2 x3 (0 : Int32) x5 0 x7 (x8 + 1) 0 0 0 0 0 0 0 0 0 else ((aA x8 (5 : Int32)).bind fun (u83 : Int32) => (if u83 < x9 then k 12 x1 x2 x3 (0 : Int32) x5 0 x7 (x8 + 1) 0 0 0 0 0 0 0 0 0 else ((aA x8 (5 : Int32)).bind fun (u85 : Int32) => (if (13 : Int32) ≤ u85 then k 12 x1 x2 x3 (0 : Int32) x5 0 x7 (x8 + 1) 0 0 0 0 0 0 0 0 0 else (if x11 = x9 then ((aA x8 (1 : Int32)).bind fun (u88 : Int32) => (if x10 = u88 then ((aA x8 (2 : Int32)).bind fun (u90 : Int32) => (if u90 < 0 then k 12 x1 x2 x3 (0 : Int32) x5 0 x7 (x8 + 1) 0 0 0 0 0 0 0 0 0 else ((aA x8 (3 : Int32)).bind fun (u92 : Int32) => ((aA x8 (4 : Int32)).bind fun (u93 : Int32) => (if u92 = u93 then ((aA x8 (3 : Int32)).bind fun (u95 : Int32) => (if u95 < ((-1) : Int32) then k 12 x1 x2 x3 (0 : Int32) x5 0 x7 (x8 + 1) 0 0 0 0 0 0 0 0 0 else ((aA x8 (3 : Int32)).bind fun (u97 : Int32) => (if (6 : Int32) ≤ u97 then k 12 x1 x2 x3 (0 : Int32) x5 0 x7 (x8 + 1) 0 0 0 0 0 0 0 0 0 else ((aA x8 (3 : Int32)).bind fun (u99 : Int32) => (if 0 ≤ u99 then k 12 x1 x2 x3 (1 : Int32) x5 0 x7 (x8 + 1) 0 0 0 0 0 0 0 0 0 else ((aA x8 (5 : Int32)).bind fun (u101 : Int32) => (if x9 = u101 then (if x10 = 0 then k 12 x1 x2 x3 (1 : Int32) x5 0 x7 (x8 + 1) 0 0 0 0 0 0 0 0 0 else k 12 x1 x2 x3 (0 : Int32) x5 0 x7 (x8 + 1) 0 0 0 0 0 0 0 0 0) else k 12 x1 x2 x3 (0 : Int32) x5 0 x7 (x8 + 1) 0 0 0 0 0 0 0 0 0)))))))) else k 12 x1 x2 x3 (0 : Int32) x5 0 x7 (x8 + 1) 0 0 0 0 0 0 0 0 0))))) else k 12 x1 x2 x3 (0 : Int32) x5 0 x7 (x8 + 1) 0 0 0 0 0 0 0 0 0)) else k 12 x1 x2 x3 (0 : Int32) x5 0 x7 (x8 + 1) 0 0 0 0 0 0 0 0 0)))))))
def bL_hangs_16 (aM : Int32 → Int32 → Int32 → Option Int32) (aL : Int32 → Int32 → Option Int32) (aC : Int32 → Option Int32) (aW : Int32 → Int32 → Option Int32) (aA : Int32 → Int32 → Option Int32) (aT : Int32 → Int32 → Option Int32) (aO : Int32 → Int32 → Option Int32) (aS : Int32 → Option Int32) (aG : Int32 → Int32 → Option Int32) (vsh : UInt64) (vcs : Int32) (vwo : Int32) (k : Nat → Int32 → Int32 → Int32 → Int32 → Int32 → Int32 → Int32 → Int32 → Int32 → Int32 → Int32 → Int32 → Int32 → Int32 → Int32 → UInt64 → UInt64 → Option (Int32)) (x1 : Int32) (x2 : Int32) (x3 : Int32) (x4 : Int32) (x5 : Int32) (x6 : Int32) (x7 : Int32) (x8 : Int32) (x9 : Int32) (x10 : Int32) (x11 : Int32) (x12 : Int32) (x13 : Int32) (s0 : Int32) (s1 : Int32) (q0 : UInt64) (q1 : UInt64) : Option (Int32) :=
  k 17 x1 x2 x3 x4 x5 0 x7 (0 : Int32) (0 : Int32) (1073741824 : Int32) (0 : Int32) 0 0 0 0 0 0
def bL_hangs_17 (aM : Int32 → Int32 → Int32 → Option Int32) (aL : Int32 → Int32 → Option Int32) (aC : Int32 → Option Int32) (aW : Int32 → Int32 → Option Int32) (aA : Int32 → Int32 → Option Int32) (aT : Int32 → Int32 → Option Int32) (aO : Int32 → Int32 → Option Int32) (aS : Int32 → Option Int32) (aG : Int32 → Int32 → Option Int32) (vsh : UInt64) (vcs : Int32) (vwo : Int32) (k : Nat → Int32 → Int32 → Int32 → Int32 → Int32 → Int32 → Int32 → Int32 → Int32 → Int32 → Int32 → Int32 → Int32 → Int32 → Int32 → UInt64 → UInt64 → Option (Int32)) (x1 : Int32) (x2 : Int32) (x3 : Int32) (x4 : Int32) (x5 : Int32) (x6 : Int32) (x7 : Int32) (x8 : Int32) (x9 : Int32) (x10 : Int32) (x11 : Int32) (x12 : Int32) (x13 : Int32) (s0 : Int32) (s1 : Int32) (q0 : UInt64) (q1 : UInt64) : Option (Int32) :=
  (if (30 : Int32) ≤ x11 then k 20 x1 x2 x3 x4 x5 0 x7 x8 0 0 0 0 0 0 0 0 0 else (if x4 = 0 then k 20 x1 x2 x3 x4 x5 0 x7 x8 0 0 0 0 0 0 0 0 0 else ((aO x11 (0 : Int32)).bind fun (u106 : Int32) => (if u106 < 0 then k 18 x1 x2 x3 0 x5 0 x7 x8 x9 0 x11 u106 0 (0 : Int32) 0 0 0 else (if (30 : Int32) ≤ u106 then k 18 x1 x2 x3 0 x5 0 x7 x8 x9 0 x11 u106 0 (0 : Int32) 0 0 0 else (if ((x9 >>> (u106 &&& 31)) &&& (1 : Int32)) = 0 then ((aO x11 (1 : Int32)).bind fun (u110 : Int32) => (if u110 < 0 then k 18 x1 x2 x3 0 x5 0 x7 x8 x9 0 x11 u106 0 (0 : Int32) 0 0 0 else ((aO x11 (1 : Int32)).bind fun (u112 : Int32) => (if x10 < u112 then k 18 x1 x2 x3 0 x5 0 x7 x8 x9 0 x11 u106 0 (0 : Int32) 0 0 0 else ((aO x11 (1 : Int32)).bind fun (u114 : Int32) => (if x3 < u114 then k 18 x1 x2 x3 0 x5 0 x7 x8 x9 0 x11 u106 0 (0 : Int32) 0 0 0 else k 18 x1 x2 x3 0 x5 0 x7 x8 x9 0 x11 u106 0 (1 : Int32) 0 0 0)))))) else k 18 x1 x2 x3 0 x5 0 x7 x8 x9 0 x11 u106 0 (0 : Int32) 0 0 0))))))
def bL_hangs_18 (aM : Int32 → Int32 → Int32 → Option Int32) (aL : Int32 → Int32 → Option Int32) (aC : Int32 → Option Int32) (aW : Int32 → Int32 → Option Int32) (aA : Int32 → Int32 → Option Int32) (aT : Int32 → Int32 → Option Int32) (aO : Int32 → Int32 → Option Int32) (aS : Int32 → Option Int32) (aG : Int32 → Int32 → Option Int32) (vsh : UInt64) (vcs : Int32) (vwo : Int32) (k : Nat → Int32 → Int32 → Int32 → Int32 → Int32 → Int32 → Int32 → Int32 → Int32 → Int32 → Int32 → Int32 → Int32 → Int32 → Int32 → UInt64 → UInt64 → Option (Int32)) (x1 : Int32) (x2 : Int32) (x3 : Int32) (x4 : Int32) (x5 : Int32) (x6 : Int32) (x7 : Int32) (x8 : Int32) (x9 : Int32) (x10 : Int32) (x11 : Int32) (x12 : Int32) (x13 : Int32) (s0 : Int32) (s1 : Int32) (q0 : UInt64) (q1 : UInt64) : Option (Int32) :=
  (if s0 = 0 then k 19 x1 x2 x3 s0 x5 0 x7 x8 0 0 x11 0 0 (0 : Int32) x9 0 0 else k 19 x1 x2 x3 s0 x5 0 x7 x8 0 0 x11 0 0 ((1 : Int32) <<< (x12 &&& 31)) x9 0 0)
def bL_hangs_19 (aM : Int32 → Int32 → Int32 → Option Int32) (aL : Int32 → Int32 → Option Int32) (aC : Int32 → Option Int32) (aW : Int32 → Int32 → Option Int32) (aA : Int32 → Int32 → Option Int32) (aT : Int32 → Int32 → Option Int32) (aO : Int32 → Int32 → Option Int32) (aS : Int32 → Option Int32) (aG : Int32 → Int32 → Option Int32) (vsh : UInt64) (vcs : Int32) (vwo : Int32) (k : Nat → Int32 → Int32 → Int32 → Int32 → Int32 → Int32 → Int32 → Int32 → Int32 → Int32 → Int32 → Int32 → Int32 → Int32 → Int32 → UInt64 → UInt64 → Option (Int32)) (x1 : Int32) (x2 : Int32) (x3 : Int32) (x4 : Int32) (x5 : Int32) (x6 : Int32) (x7 : Int32) (x8 : Int32) (x9 : Int32) (x10 : Int32) (x11 : Int32) (x12 : Int32) (x13 : Int32) (s0 : Int32) (s1 : Int32) (q0 : UInt64) (q1 : UInt64) : Option (Int32) :=
  ((aO x11 (1 : Int32)).bind fun (u117 : Int32) => k 17 x1 x2 x3 x4 x5 0 x7 (x8 + u117) (s1 ||| s0) u117 (x11 + 1) 0 0 0 0 0 0)
def bL_hangs_20 (aM : Int32 → Int32 → Int32 → Option Int32) (aL : Int32 → Int32 → Option Int32) (aC : Int32 → Option Int32) (aW : Int32 → Int32 → Option Int32) (aA : Int32 → Int32 → Option Int32) (aT : Int32 → Int32 → Option Int32) (aO : Int32 → Int32 → Option Int32) (aS : Int32 → Option Int32) (aG : Int32 → Int32 → Option Int32) (vsh : UInt64) (vcs : Int32) (vwo : Int32) (k : Nat → Int32 → Int32 → Int32 → Int32 → Int32 → Int32 → Int32 → Int32 → Int32 → Int32 → Int32 → Int32 → Int32 → Int32 → Int32 → UInt64 → UInt64 → Option (Int32)) (x1 : Int32) (x2 : Int32) (x3 : Int32) (x4 : Int32) (x5 : Int32) (x6 : Int32) (x7 : Int32) (x8 : Int32) (x9 : Int32) (x10 : Int32) (x11 : Int32) (x12 : Int32) (x13 : Int32) (s0 : Int32) (s1 : Int32) (q0 : UInt64) (q1 : UInt64) : Option (Int32) :=
  ((aS (0 : Int32)).bind fun (u118 : Int32) => ((aS (1 : Int32)).bind fun (u119 : Int32) => ((aC (1 : Int32)).bind fun (u120 : Int32) => (if x4 = 0 then some ((0 : Int32)) else ((aC (4 : Int32)).bind fun (u122 : Int32) => (if x1 = u122 then ((aC (5 : Int32)).bind fun (u124 : Int32) => (if x2 = u124 then ((aC (3 : Int32)).bind fun (u126 : Int32) => (if x3 = u126 then (if ((12 : Int32) * x3) < x8 then some ((0 : Int32)) else (if x5 < 0 then some ((0 : Int32)) else (if (8 : Int32) < x5 then some ((0 : Int32)) else ((aW x5 (0 : Int32)).bind fun (u131 : Int32) => (if u131 = ((-1) : Int32) then (if (6 : Int32) ≤ u120 then k 21 0 0 x3 0 x5 0 0 0 0 0 u118 u119 u120 (6 : Int32) x7 0 0 else k 21 0 0 x3 0 x5 0 0 0 0 0 u118 u119 u120 u120 x7 0 0) else some ((0 : Int32))))))) else some ((0 : Int32)))) else some ((0 : Int32)))) else some ((0 : Int32))))))))
def bL_hangs_21 (aM : Int32 → Int32 → Int32 → Option Int32) (aL : Int32 → Int32 → Option Int32) (aC : Int32 → Option Int32) (aW : Int32 → Int32 → Option Int32) (aA : Int32 → Int32 → Option Int32) (aT : Int32 → Int32 → Option Int32) (aO : Int32 → Int32 → Option Int32) (aS : Int32 → Option Int32) (aG : Int32 → Int32 → Option Int32) (vsh : UInt64) (vcs : Int32) (vwo : Int32) (k : Nat → Int32 → Int32 → Int32 → Int32 → Int32 → Int32 → Int32 → Int32 → Int32 → Int32 → Int32 → Int32 → Int32 → Int32 → Int32 → UInt64 → UInt64 → Option (Int32)) (x1 : Int32) (x2 : Int32) (x3 : Int32) (x4 : Int32) (x5 : Int32) (x6 : Int32) (x7 : Int32) (x8 : Int32) (x9 : Int32) (x10 : Int32) (x11 : Int32) (x12 : Int32) (x13 : Int32) (s0 : Int32) (s1 : Int32) (q0 : UInt64) (q1 : UInt64) : Option (Int32) :=
  (if s1 = s0 then (if x13 < x3 then some ((0 : Int32)) else (if x11 = ((-1) : Int32) then k 22 0 0 x3 0 x5 0 0 0 0 0 0 x12 x13 (1 : Int32) 0 0 0 else k 22 0 0 x3 0 x5 0 0 0 0 0 0 x12 x13 (0 : Int32) 0 0 0)) else some ((0 : Int32)))
def bL_hangs_22 (aM : Int32 → Int32 → Int32 → Option Int32) (aL : Int32 → Int32 → Option Int32) (aC : Int32 → Option Int32) (aW : Int32 → Int32 → Option Int32) (aA : Int32 → Int32 → Option Int32) (aT : Int32 → Int32 → Option Int32) (aO : Int32 → Int32 → Option Int32) (aS : Int32 → Option Int32) (aG : Int32 → Int32 → Option Int32) (vsh : UInt64) (vcs : Int32) (vwo : Int32) (k : Nat → Int32 → Int32 → Int32 → Int32 → Int32 → Int32 → Int32 → Int32 → Int32 → Int32 → Int32 → Int32 → Int32 → Int32 → Int32 → UInt64 → UInt64 → Option (Int32)) (x1 : Int32) (x2 : Int32) (x3 : Int32) (x4 : Int32) (x5 : Int32) (x6 : Int32) (x7 : Int32) (x8 : Int32) (x9 : Int32) (x10 : Int32) (x11 : Int32) (x12 : Int32) (x13 : Int32) (s0 : Int32) (s1 : Int32) (q0 : UInt64) (q1 : UInt64) : Option (Int32) :=
  (if x12 = ((-1) : Int32) then k 23 0 0 x3 0 x5 0 0 0 0 0 0 x12 x13 (1 : Int32) s0 0 0 else k 23 0 0 x3 0 x5 0 0 0 0 0 0 x12 x13 (0 : Int32) s0 0 0)
def bL_hangs_23 (aM : Int32 → Int32 → Int32 → Option Int32) (aL : Int32 → Int32 → Option Int32) (aC : Int32 → Option Int32) (aW : Int32 → Int32 → Option Int32) (aA : Int32 → Int32 → Option Int32) (aT : Int32 → Int32 → Option Int32) (aO : Int32 → Int32 → Option Int32) (aS : Int32 → Option Int32) (aG : Int32 → Int32 → Option Int32) (vsh : UInt64) (vcs : Int32) (vwo : Int32) (k : Nat → Int32 → Int32 → Int32 → Int32 → Int32 → Int32 → Int32 → Int32 → Int32 → Int32 → Int32 → Int32 → Int32 → Int32 → Int32 → UInt64 → UInt64 → Option (Int32)) (x1 : Int32) (x2 : Int32) (x3 : Int32) (x4 : Int32) (x5 : Int32) (x6 : Int32) (x7 : Int32) (x8 : Int32) (x9 : Int32) (x10 : Int32) (x11 : Int32) (x12 : Int32) (x13 : Int32) (s0 : Int32) (s1 : Int32) (q0 : UInt64) (q1 : UInt64) : Option (Int32) :=
  (if s1 = s0 then (if (3 : Int32) ≤ x12 then some ((0 : Int32)) else (if x12 = 0 then some ((0 : Int32)) else (if x13 = 0 then k 24 0 0 0 0 x5 0 0 0 0 0 0 0 0 0 0 FP.dconst1 vsh else (if ¬ (FP.ddiv (FP.i2d (x13 - x3)) (FP.i2d x13) &&& 0x7fffffffffffffff ≤ 0x7ff0000000000000) then none else k 24 0 0 0 0 x5 0 0 0 0 0 0 0 0 0 0 (FP.ddiv (FP.i2d (x13 - x3)) (FP.i2d x13)) vsh)))) else some ((0 : Int32)))
def bL_hangs_24 (aM : Int32 → Int32 → Int32 → Option Int32) (aL : Int32 → Int32 → Option Int32) (aC : Int32 → Option Int32) (aW : Int32 → Int32 → Option Int32) (aA : Int32 → Int32 → Option Int32) (aT : Int32 → Int32 → Option Int32) (aO : Int32 → Int32 → Option Int32) (aS : Int32 → Option Int32) (aG : Int32 → Int32 → Option Int32) (vsh : UInt64) (vcs : Int32) (vwo : Int32) (k : Nat → Int32 → Int32 → Int32 → Int32 → Int32 → Int32 → Int32 → Int32 → Int32 → Int32 → Int32 → Int32 → Int32 → Int32 → Int32 → UInt64 → UInt64 → Option (Int32)) (x1 : Int32) (x2 : Int32) (x3 : Int32) (x4 : Int32) (x5 : Int32) (x6 : Int32) (x7 : Int32) (x8 : Int32) (x9 : Int32) (x10 : Int32) (x11 : Int32) (x12 : Int32) (x13 : Int32) (s0 : Int32) (s1 : Int32) (q0 : UInt64) (q1 : UInt64) : Option (Int32) :=
  (if (Op.cmpValue (FP.dcmp q1 q0) .l) = 0 then (if x5 ≤ 0 then ((aG (3 : Int32) (1 : Int32)).bind fun (u145 : Int32) => (if u145 = ((-1) : Int32) then (if vcs = 0 then (if vwo = ((-1) : Int32) then some ((1 : Int32)) else some ((0 : Int32))) else some ((0 : Int32))) else some ((0 : Int32)))) else ((aG (5 : Int32) (0 : Int32)).bind fun (u149 : Int32) => (if u149 < 0 then some ((0 : Int32)) else ((aG (5 : Int32) (0 : Int32)).bind fun (u151 : Int32) => ((aW (0 : Int32) (0 : Int32)).bind fun (u152 : Int32) => (if u152 < u151 then some ((0 : Int32)) else ((aG (0 : Int32) (2 : Int32)).bind fun (u154 : Int32) => (if vcs < u154 then some ((0 : Int32)) else some ((1 : Int32)))))))))) else some ((0 : Int32)))
def sL_hangs (aM : Int32 → Int32 → Int32 → Option Int32) (aL : Int32 → Int32 → Option Int32) (aC : Int32 → Option Int32) (aW : Int32 → Int32 → Option Int32) (aA : Int32 → Int32 → Option Int32) (aT : Int32 → Int32 → Option Int32) (aO : Int32 → Int32 → Option Int32) (aS : Int32 → Option Int32) (aG : Int32 → Int32 → Option Int32) (vsh : UInt64) (vcs : Int32) (vwo : Int32) (k : Nat → Int32 → Int32 → Int32 → Int32 → Int32 → Int32 → Int32 → Int32 → Int32 → Int32 → Int32 → Int32 → Int32 → Int32 → Int32 → UInt64 → UInt64 → Option (Int32)) (b : Nat) (x1 : Int32) (x2 : Int32) (x3 : Int32) (x4 : Int32) (x5 : Int32) (x6 : Int32) (x7 : Int32) (x8 : Int32) (x9 : Int32) (x10 : Int32) (x11 : Int32) (x12 : Int32) (x13 : Int32) (s0 : Int32) (s1 : Int32) (q0 : UInt64) (q1 : UInt64) : Option (Int32) := match b with
  | 1 => bL_hangs_1 aM aL aC aW aA aT aO aS aG vsh vcs vwo k x1 x2 x3 x4 x5 x6 x7 x8 x9 x10 x11 x12 x13 s0 s1 q0 q1
  | 2 => bL_hangs_2 aM aL aC aW aA aT aO aS aG vsh vcs vwo k x1 x2 x3 x4 x5 x6 x7 x8 x9 x10 x11 x12 x13 s0 s1 q0 q1
  | 3 => bL_hangs_3 aM aL aC aW aA aT aO aS aG vsh vcs vwo k x1 x2 x3 x4 x5 x6 x7 x8 x9 x10 x11 x12 x13 s0 s1 q0 q1
  | 4 => bL_hangs_4 aM aL aC aW aA aT aO aS aG vsh vcs vwo k x1 x2 x3 x4 x5 x6 x7 x8 x9 x10 x11 x12 x13 s0 s1 q0 q1
  | 5 => bL_hangs_5 aM aL aC aW aA aT aO aS aG vsh vcs vwo k x1 x2 x3 x4 x5 x6 x7 x8 x9 x10 x11 x12 x13 s0 s1 q0 q1
  | 6 => bL_hangs_6 aM aL aC aW aA aT aO aS aG vsh vcs vwo k x1 x2 x3 x4 x5 x6 x7 x8 x9 x10 x11 x12 x13 s0 s1 q0 q1
  | 7 => bL_hangs_7 aM aL aC aW aA aT aO aS aG vsh vcs vwo k x1 x2 x3 x4 x5 x6 x7 x8 x9 x10 x11 x12 x13 s0 s1 q0 q1
  | 8 => bL_hangs_8 aM aL aC aW aA aT aO aS aG vsh vcs vwo k x1 x2 x3 x4 x5 x6 x7 x8 x9 x10 x11 x12 x13 s0 s1 q0 q1
  | 9 => bL_hangs_9 aM aL aC aW aA aT aO aS aG vsh vcs vwo k x1 x2 x3 x4 x5 x6 x7 x8 x9 x10 x11 x12 x13 s0 s1 q0 q1
  | 10 => bL_hangs_10 aM aL aC aW aA aT aO aS aG vsh vcs vwo k x1 x2 x3 x4 x5 x6 x7 x8 x9 x10 x11 x12 x13 s0 s1 q0 q1
  | 11 => bL_hangs_11 aM aL aC aW aA aT aO aS aG vsh vcs vwo k x1 x2 x3 x4 x5 x6 x7 x8 x9 x10 x11 x12 x13 s0 s1 q0 q1
  | 12 => bL_hangs_12 aM aL aC aW aA aT aO aS aG vsh vcs vwo k x1 x2 x3 x4 x5 x6 x7 x8 x9 x10 x11 x12 x13 s0 s1 q0 q1
  | 13 => bL_hangs_13 aM aL aC aW aA aT aO aS aG vsh vcs vwo k x1 x2 x3 x4 x5 x6 x7 x8 x9 x10 x11 x12 x13 s0 s1 q0 q1
  | 14 => bL_hangs_14 aM aL aC aW aA aT aO aS aG vsh vcs vwo k x1 x2 x3 x4 x5 x6 x7 x8 x9 x10 x11 x12 x13 s0 s1 q0 q1
  | 15 => bL_hangs_15 aM aL aC aW aA aT aO aS aG vsh vcs vwo k x1 x2 x3 x4 x5 x6 x7 x8 x9 x10 x11 x12 x13 s0 s1 q0 q1
  | 16 => bL_hangs_16 aM aL aC aW aA aT aO aS aG vsh vcs vwo k x1 x2 x3 x4 x5 x6 x7 x8 x9 x10 x11 x12 x13 s0 s1 q0 q1
  | 17 => bL_hangs_17 aM aL aC aW aA aT aO aS aG vsh vcs vwo k x1 x2 x3 x4 x5 x6 x7 x8 x9 x10 x11 x12 x13 s0 s1 q0 q1
  | 18 => bL_hangs_18 aM aL aC aW aA aT aO aS aG vsh vcs vwo k x1 x2 x3 x4 x5 x6 x7 x8 x9 x10 x11 x12 x13 s0 s1 q0 q1
  | 19 => bL_hangs_19 aM aL aC aW aA aT aO aS aG vsh vcs vwo k x1 x2 x3 x4 x5 x6 x7 x8 x9 x10 x11 x12 x13 s0 s1 q0 q1
  | 20 => bL_hangs_20 aM aL aC aW aA aT aO aS aG vsh vcs vwo k x1 x2 x3 x4 x5 x6 x7 x8 x9 x10 x11 x12 x13 s0 s1 q0 q1
  | 21 => bL_hangs_21 aM aL aC aW aA aT aO aS aG vsh vcs vwo k x1 x2 x3 x4 x5 x6 x7 x8 x9 x10 x11 x12 x13 s0 s1 q0 q1
  | 22 => bL_hangs_22 aM aL aC aW aA aT aO aS aG vsh vcs vwo k x1 x2 x3 x4 x5 x6 x7 x8 x9 x10 x11 x12 x13 s0 s1 q0 q1
  | 23 => bL_hangs_23 aM aL aC aW aA aT aO aS aG vsh vcs vwo k x1 x2 x3 x4 x5 x6 x7 x8 x9 x10 x11 x12 x13 s0 s1 q0 q1
  | 24 => bL_hangs_24 aM aL aC aW aA aT aO aS aG vsh vcs vwo k x1 x2 x3 x4 x5 x6 x7 x8 x9 x10 x11 x12 x13 s0 s1 q0 q1
  | _ => none
def rL_hangs (aM : Int32 → Int32 → Int32 → Option Int32) (aL : Int32 → Int32 → Option Int32) (aC : Int32 → Option Int32) (aW : Int32 → Int32 → Option Int32) (aA : Int32 → Int32 → Option Int32) (aT : Int32 → Int32 → Option Int32) (aO : Int32 → Int32 → Option Int32) (aS : Int32 → Option Int32) (aG : Int32 → Int32 → Option Int32) (vsh : UInt64) (vcs : Int32) (vwo : Int32) : Nat → Nat → Int32 → Int32 → Int32 → Int32 → Int32 → Int32 → Int32 → Int32 → Int32 → Int32 → Int32 → Int32 → Int32 → Int32 → Int32 → UInt64 → UInt64 → Option (Int32)
  | 0 => fun _ _ _ _ _ _ _ _ _ _ _ _ _ _ _ _ _ _ => none
  | n + 1 => sL_hangs aM aL aC aW aA aT aO aS aG vsh vcs vwo (rL_hangs aM aL aC aW aA aT aO aS aG vsh vcs vwo n)
def eL_hangs (aM : Int32 → Int32 → Int32 → Option Int32) (aL : Int32 → Int32 → Option Int32) (aC : Int32 → Option Int32) (aW : Int32 → Int32 → Option Int32) (aA : Int32 → Int32 → Option Int32) (aT : Int32 → Int32 → Option Int32) (aO : Int32 → Int32 → Option Int32) (aS : Int32 → Option Int32) (aG : Int32 → Int32 → Option Int32) (vsh : UInt64) (vcs : Int32) (vwo : Int32) (k : Nat → Int32 → Int32 → Int32 → Int32 → Int32 → Int32 → Int32 → Int32 → Int32 → Int32 → Int32 → Int32 → Int32 → Int32 → Int32 → UInt64 → UInt64 → Option (Int32)) : Option (Int32) :=
  k 1 (0 : Int32) (0 : Int32) (0 : Int32) (1 : Int32) (0 : Int32) 0 0 0 0 0 0 0 0 0 0 0 0
def fL_hangs (aM : Int32 → Int32 → Int32 → Option Int32) (aL : Int32 → Int32 → Option Int32) (aC : Int32 → Option Int32) (aW : Int32 → Int32 → Option Int32) (aA : Int32 → Int32 → Option Int32) (aT : Int32 → Int32 → Option Int32) (aO : Int32 → Int32 → Option Int32) (aS : Int32 → Option Int32) (aG : Int32 → Int32 → Option Int32) (vsh : UInt64) (vcs : Int32) (vwo : Int32) : Option (Int32) := eL_hangs aM aL aC aW aA aT aO aS aG vsh vcs vwo (rL_hangs aM aL aC aW aA aT aO aS aG vsh vcs vwo fuelN)
set_option maxHeartbeats 8000000 in
set_option maxRecDepth 100000 in
theorem mL_hangs (l : Launch) (sa sv : Nat → Nat) (G : va_G) (cI cS : ClassId) (ad : Nat) (J : va_W → Prop) (aM : Int32 → Int32 → Int32 → Option Int32) (aL : Int32 → Int32 → Option Int32) (aC : Int32 → Option Int32) (aW : Int32 → Int32 → Option Int32) (aA : Int32 → Int32 → Option Int32) (aT : Int32 → Int32 → Option Int32) (aO : Int32 → Int32 → Option Int32) (aS : Int32 → Option Int32) (aG : Int32 → Int32 → Option Int32) (vsh : UInt64) (vcs : Int32) (vwo : Int32) (haM : ∀ (p1 p2 p3 : Int32) (r : Int32) (ws : va_W), aM p1 p2 p3 = some r → J ws → LwS l sa sv G (tyH cI cS) yL_meaning wsL_meaning 0 0 [.ref ad, .int p1, .int p2, .int p3] ws (fun k ws1 => r = k ∧ J ws1)) (haL : ∀ (p1 p2 : Int32) (r : Int32) (ws : va_W), aL p1 p2 = some r → J ws → LwS l sa sv G (tyH cI cS) yL_link wsL_link 0 0 [.ref ad, .int p1, .int p2] ws (fun k ws1 => r = k ∧ J ws1)) (haC : ∀ (p1 : Int32) (r : Int32) (ws : va_W), aC p1 = some r → J ws → LwS l sa sv G (tyH cI cS) yL_count wsL_count 0 0 [.ref ad, .int p1] ws (fun k ws1 => r = k ∧ J ws1)) (haW : ∀ (p1 p2 : Int32) (r : Int32) (ws : va_W), aW p1 p2 = some r → J ws → LwS l sa sv G (tyH cI cS) yL_waits wsL_waits 0 0 [.ref ad, .int p1, .int p2] ws (fun k ws1 => r = k ∧ J ws1)) (haA : ∀ (p1 p2 : Int32) (r : Int32) (ws : va_W), aA p1 p2 = some r → J ws → LwS l sa sv G (tyH cI cS) yL_arrival wsL_arrival 0 0 [.ref ad, .int p1, .int p2] ws (fun k ws1 => r = k ∧ J ws1)) (haT : ∀ (p1 p2 : Int32) (r : Int32) (ws : va_W), aT p1 p2 = some r → J ws → LwS l sa sv G (tyH cI cS) yL_told wsL_told 0 0 [.ref ad, .int p1, .int p2] ws (fun k ws1 => r = k ∧ J ws1)) (haO : ∀ (p1 p2 : Int32) (r : Int32) (ws : va_W), aO p1 p2 = some r → J ws → LwS l sa sv G (tyH cI cS) yL_lost wsL_lost 0 0 [.ref ad, .int p1, .int p2] ws (fun k ws1 => r = k ∧ J ws1)) (haS : ∀ (p1 : Int32) (r : Int32) (ws : va_W), aS p1 = some r → J ws → LwS l sa sv G (tyH cI cS) yL_stopped wsL_stopped 0 0 [.ref ad, .int p1] ws (fun k ws1 => r = k ∧ J ws1)) (haG : ∀ (p1 p2 : Int32) (r : Int32) (ws : va_W), aG p1 p2 = some r → J ws → LwS l sa sv G (tyH cI cS) yL_ifGone wsL_ifGone 0 0 [.ref ad, .int p1, .int p2] ws (fun k ws1 => r = k ∧ J ws1)) (hvsh : ∀ (ws : va_W), J ws → LwXd l sa sv G [(cI, .int)] yX8_throughShare wsX8_throughShare ({ frames := 1, cells := 0, slots := 0, locals := 25 } : Room) ad [] ws (fun k ws1 => vsh = k ∧ J ws1)) (hvcs : ∀ (ws : va_W), J ws → LwX l sa sv G [(cI, .int)] yX8_costs wsX8_costs ({ frames := 4, cells := 0, slots := 0, locals := 99 } : Room) ad [] ws (fun k ws1 => vcs = k ∧ J ws1)) (hvwo : ∀ (ws : va_W), J ws → LwX l sa sv G [(cI, .int)] yX8_worstEar wsX8_worstEar ({ frames := 4, cells := 0, slots := 0, locals := 99 } : Room) ad [] ws (fun k ws1 => vwo = k ∧ J ws1)) (sz : Nat) (wc : va_W) (hJ0 : J wc) (res : Int32) (hf : fL_hangs aM aL aC aW aA aT aO aS aG vsh vcs vwo = some res) : Met l yL_hangs wsL_hangs ({ frames := 9, cells := 0, slots := 0, locals := 260 } : Room) (mPcX sa sv G (tyH cI cS) [.ref ad] sz wc) (va_Qi (S := va_W) (fun x w => x = res ∧ J w) (mB G (tyH cI cS) (va_A wc sz) (fun w => w)) (va_A wc sz)) 0 0 (va_A wc sz) := by
  refine mStartX (cc := cL_hangs) (maxL := 14) (ret := (some .boolean)) (by decide) rfl (Nat.le_of_ble_eq_true rfl) ?_
  intro p e s m below meth c A ls hx hb hml hr hts hown hlocks hnm hA hsz hAe hP hK hD hE hS hl
  have hl : lv_has ls 14 [(0, .ref ad)] := hl
  rw [hAe]
  have k1 := hts (.constant RL 128 (1073741824)) (by decide +kernel)
  have key : ∀ fu : Nat, (∀ (x1 : Int32) (x2 : Int32) (x3 : Int32) (x4 : Int32) (x5 : Int32) (ws : va_W) (H : Heap) (locs : List Loc) (hf : rL_hangs aM aL aC aW aA aT aO aS aG vsh vcs vwo fu 1 x1 x2 x3 x4 x5 0 0 0 0 0 0 0 0 0 0 0 0 = some res) (hJ : J ws) (hP : va_P G vwCl ws H) (hD : va_D A ws) (hS : va_S A s.heap H locs) (ls : Array Slot) (hl : lv_has ls 14 [(0, .ref ad), (1, .int x1), (2, .int x2), (3, .int x3), (4, .int x4), (5, .int x5)]), W p l e ({ frames := 9, cells := 0, slots := 0, locals := 260 } : Room) s m ([.ref ad] : List Value).toArray below meth c H locs 0 0 (MQ below (va_Qi (S := va_W) (fun x w => x = res ∧ J w) (mB G (tyH cI cS) A (fun w => w)) A) ([.ref ad] : List Value).toArray s 0 0 A) (F0 m 12 ls [])) ∧ (∀ (x1 : Int32) (x2 : Int32) (x3 : Int32) (x4 : Int32) (x5 : Int32) (x6 : Int32) (x7 : Int32) (x8 : Int32) (ws : va_W) (H : Heap) (locs : List Loc) (hf : rL_hangs aM aL aC aW aA aT aO aS aG vsh vcs vwo fu 2 x1 x2 x3 x4 x5 x6 x7 x8 0 0 0 0 0 0 0 0 0 = some res) (hJ : J ws) (hP : va_P G vwCl ws H) (hD : va_D A ws) (hS : va_S A s.heap H locs) (ls : Array Slot) (hl : lv_has ls 14 [(0, .ref ad), (1, .int x1), (2, .int x2), (3, .int x3), (4, .int x4), (5, .int x5), (6, .int x6), (7, .int x7), (8, .int x8)]), W p l e ({ frames := 9, cells := 0, slots := 0, locals := 260 } : Room) s m ([.ref ad] : List Value).toArray below meth c H locs 0 0 (MQ below (va_Qi (S := va_W) (fun x w => x = res ∧ J w) (mB G (tyH cI cS) A (fun w => w)) A) ([.ref ad] : List Value).toArray s 0 0 A) (F0 m 33 ls [])) ∧ (∀ (x1 : Int32) (x2 : Int32) (x3 : Int32) (x5 : Int32) (x6 : Int32) (x7 : Int32) (x8 : Int32) (x9 : Int32) (x10 : Int32) (x11 : Int32) (ws : va_W) (H : Heap) (locs : List Loc) (hf : rL_hangs aM aL aC aW aA aT aO aS aG vsh vcs vwo fu 3 x1 x2 x3 0 x5 x6 x7 x8 x9 x10 x11 0 0 0 0 0 0 = some res) (hJ : J ws) (hP : va_P G vwCl ws H) (hD : va_D A ws) (hS : va_S A s.heap H locs) (ls : Array Slot) (hl : lv_has ls 14 [(0, .ref ad), (1, .int x1), (2, .int x2), (3, .int x3), (5, .int x5), (6, .int x6), (7, .int x7), (8, .int x8), (9, .int x9), (10, .int x10), (11, .int x11)]), W p l e ({ frames := 9, cells := 0, slots := 0, locals := 260 } : Room) s m ([.ref ad] : List Value).toArray below meth c H locs 0 0 (MQ below (va_Qi (S := va_W) (fun x w => x = res ∧ J w) (mB G (tyH cI cS) A (fun w => w)) A) ([.ref ad] : List Value).toArray s 0 0 A) (F0 m 147 ls [])) ∧ (∀ (x1 : Int32) (x2 : Int32) (x3 : Int32) (x5 : Int32) (x6 : Int32) (x7 : Int32) (x8 : Int32) (x9 : Int32) (x10 : Int32) (s0 : Int32) (ws : va_W) (H : Heap) (locs : List Loc) (hf : rL_hangs aM aL aC aW aA aT aO aS aG vsh vcs vwo fu 4 x1 x2 x3 0 x5 x6 x7 x8 x9 x10 0 0 0 s0 0 0 0 = some res) (hJ : J ws) (hP : va_P G vwCl ws H) (hD : va_D A ws) (hS : va_S A s.heap H locs) (ls : Array Slot) (hl : lv_has ls 14 [(0, .ref ad), (1, .int x1), (2, .int x2), (3, .int x3), (5, .int x5), (6, .int x6), (7, .int x7), (8, .int x8), (9, .int x9), (10, .int x10)]), W p l e ({ frames := 9, cells := 0, slots := 0, locals := 260 } : Room) s m ([.ref ad] : List Value).toArray below meth c H locs 0 0 (MQ below (va_Qi (S := va_W) (fun x w => x = res ∧ J w) (mB G (tyH cI cS) A (fun w => w)) A) ([.ref ad] : List Value).toArray s 0 0 A) (F0 m 185 ls [.int s0])) ∧ (∀ (x1 : Int32) (x2 : Int32) (x3 : Int32) (x4 : Int32) (x5 : Int32) (x7 : Int32) (x8 : Int32) (x9 : Int32) (x10 : Int32) (s0 : Int32) (s1 : Int32) (ws : va_W) (H : Heap) (locs : List Loc) (hf : rL_hangs aM aL aC aW aA aT aO aS aG vsh vcs vwo fu 5 x1 x2 x3 x4 x5 0 x7 x8 x9 x10 0 0 0 s0 s1 0 0 = some res) (hJ : J ws) (hP : va_P G vwCl ws H) (hD : va_D A ws) (hS : va_S A s.heap H locs) (ls : Array Slot) (hl : lv_has ls 14 [(0, .ref ad), (1, .int x1), (2, .int x2), (3, .int x3), (4, .int x4), (5, .int x5), (7, .int x7), (8, .int x8), (9, .int x9), (10, .int x10)]), W p l e ({ frames := 9, cells := 0, slots := 0, locals := 260 } : Room) s m ([.ref ad] : List Value).toArray below meth c H locs 0 0 (MQ below (va_Qi (S := va_W) (fun x w => x = res ∧ J w) (mB G (tyH cI cS) A (fun w => w)) A) ([.ref ad] : List Value).toArray s 0 0 A) (F0 m 200 ls [.int s0, .int s1])) ∧ (∀ (x1 : Int32) (x2 : Int32) (x3 : Int32) (x4 : Int32) (x5 : Int32) (x6 : Int32) (x7 : Int32) (ws : va_W) (H : Heap) (locs : List Loc) (hf : rL_hangs aM aL aC aW aA aT aO aS aG vsh vcs vwo fu 6 x1 x2 x3 x4 x5 x6 x7 0 0 0 0 0 0 0 0 0 0 = some res) (hJ : J ws) (hP : va_P G vwCl ws H) (hD : va_D A ws) (hS : va_S A s.heap H locs) (ls : Array Slot) (hl : lv_has ls 14 [(0, .ref ad), (1, .int x1), (2, .int x2), (3, .int x3), (4, .int x4), (5, .int x5), (6, .int x6), (7, .int x7)]), W p l e ({ frames := 9, cells := 0, slots := 0, locals := 260 } : Room) s m ([.ref ad] : List Value).toArray below meth c H locs 0 0 (MQ below (va_Qi (S := va_W) (fun x w => x = res ∧ J w) (mB G (tyH cI cS) A (fun w => w)) A) ([.ref ad] : List Value).toArray s 0 0 A) (F0 m 231 ls [])) ∧ (∀ (x1 : Int32) (x2 : Int32) (x3 : Int32) (x5 : Int32) (s0 : Int32) (ws : va_W) (H : Heap) (locs : List Loc) (hf : rL_hangs aM aL aC aW aA aT aO aS aG vsh vcs vwo fu 7 x1 x2 x3 0 x5 0 0 0 0 0 0 0 0 s0 0 0 0 = some res) (hJ : J ws) (hP : va_P G vwCl ws H) (hD : va_D A ws) (hS : va_S A s.heap H locs) (ls : Array Slot) (hl : lv_has ls 14 [(0, .ref ad), (1, .int x1), (2, .int x2), (3, .int x3), (5, .int x5)]), W p l e ({ frames := 9, cells := 0, slots := 0, locals := 260 } : Room) s m ([.ref ad] : List Value).toArray below meth c H locs 0 0 (MQ below (va_Qi (S := va_W) (fun x w => x = res ∧ J w) (mB G (tyH cI cS) A (fun w => w)) A) ([.ref ad] : List Value).toArray s 0 0 A) (F0 m 340 ls [.int s0])) ∧ (∀ (x1 : Int32) (x2 : Int32) (x3 : Int32) (x4 : Int32) (ws : va_W) (H : Heap) (locs : List Loc) (hf : rL_hangs aM aL aC aW aA aT aO aS aG vsh vcs vwo fu 8 x1 x2 x3 x4 0 0 0 0 0 0 0 0 0 0 0 0 0 = some res) (hJ : J ws) (hP : va_P G vwCl ws H) (hD : va_D A ws) (hS : va_S A s.heap H locs) (ls : Array Slot) (hl : lv_has ls 14 [(0, .ref ad), (1, .int x1), (2, .int x2), (3, .int x3), (4, .int x4)]), W p l e ({ frames := 9, cells := 0, slots := 0, locals := 260 } : Room) s m ([.ref ad] : List Value).toArray below meth c H locs 0 0 (MQ below (va_Qi (S := va_W) (fun x w => x = res ∧ J w) (mB G (tyH cI cS) A (fun w => w)) A) ([.ref ad] : List Value).toArray s 0 0 A) (F0 m 379 ls [])) ∧ (∀ (x1 : Int32) (x2 : Int32) (x3 : Int32) (x4 : Int32) (x5 : Int32) (x6 : Int32) (x7 : Int32) (ws : va_W) (H : Heap) (locs : List Loc) (hf : rL_hangs aM aL aC aW aA aT aO aS aG vsh vcs vwo fu 9 x1 x2 x3 x4 x5 x6 x7 0 0 0 0 0 0 0 0 0 0 = some res) (hJ : J ws) (hP : va_P G vwCl ws H) (hD : va_D A ws) (hS : va_S A s.heap H locs) (ls : Array Slot) (hl : lv_has ls 14 [(0, .ref ad), (1, .int x1), (2, .int x2), (3, .int x3), (4, .int x4), (5, .int x5), (6, .int x6), (7, .int x7)]), W p l e ({ frames := 9, cells := 0, slots := 0, locals := 260 } : Room) s m ([.ref ad] : List Value).toArray below meth c H locs 0 0 (MQ below (va_Qi (S := va_W) (fun x w => x = res ∧ J w) (mB G (tyH cI cS) A (fun w => w)) A) ([.ref ad] : List Value).toArray s 0 0 A) (F0 m 393 ls [])) ∧ (∀ (x1 : Int32) (x2 : Int32) (x3 : Int32) (x5 : Int32) (x7 : Int32) (s0 : Int32) (ws : va_W) (H : Heap) (locs : List Loc) (hf : rL_hangs aM aL aC aW aA aT aO aS aG vsh vcs vwo fu 10 x1 x2 x3 0 x5 0 x7 0 0 0 0 0 0 s0 0 0 0 = some res) (hJ : J ws) (hP : va_P G vwCl ws H) (hD : va_D A ws) (hS : va_S A s.heap H locs) (ls : Array Slot) (hl : lv_has ls 14 [(0, .ref ad), (1, .int x1), (2, .int x2), (3, .int x3), (5, .int x5), (7, .int x7)]), W p l e ({ frames := 9, cells := 0, slots := 0, locals := 260 } : Room) s m ([.ref ad] : List Value).toArray below meth c H locs 0 0 (MQ below (va_Qi (S := va_W) (fun x w => x = res ∧ J w) (mB G (tyH cI cS) A (fun w => w)) A) ([.ref ad] : List Value).toArray s 0 0 A) (F0 m 483 ls [.int s0])) ∧ (∀ (x1 : Int32) (x2 : Int32) (x3 : Int32) (x4 : Int32) (x5 : Int32) (ws : va_W) (H : Heap) (locs : List Loc) (hf : rL_hangs aM aL aC aW aA aT aO aS aG vsh vcs vwo fu 11 x1 x2 x3 x4 x5 0 0 0 0 0 0 0 0 0 0 0 0 = some res) (hJ : J ws) (hP : va_P G vwCl ws H) (hD : va_D A ws) (hS : va_S A s.heap H locs) (ls : Array Slot) (hl : lv_has ls 14 [(0, .ref ad), (1, .int x1), (2, .int x2), (3, .int x3), (4, .int x4), (5, .int x5)]), W p l e ({ frames := 9, cells := 0, slots := 0, locals := 260 } : Room) s m ([.ref ad] : List Value).toArray below meth c H locs 0 0 (MQ below (va_Qi (S := va_W) (fun x w => x = res ∧ J w) (mB G (tyH cI cS) A (fun w => w)) A) ([.ref ad] : List Value).toArray s 0 0 A) (F0 m 500 ls [])) ∧ (∀ (x1 : Int32) (x2 : Int32) (x3 : Int32) (x4 : Int32) (x5 : Int32) (x7 : Int32) (x8 : Int32) (ws : va_W) (H : Heap) (locs : List Loc) (hf : rL_hangs aM aL aC aW aA aT aO aS aG vsh vcs vwo fu 12 x1 x2 x3 x4 x5 0 x7 x8 0 0 0 0 0 0 0 0 0 = some res) (hJ : J ws) (hP : va_P G vwCl ws H) (hD : va_D A ws) (hS : va_S A s.heap H locs) (ls : Array Slot) (hl : lv_has ls 14 [(0, .ref ad), (1, .int x1), (2, .int x2), (3, .int x3), (4, .int x4), (5, .int x5), (7, .int x7), (8, .int x8)]), W p l e ({ frames := 9, cells := 0, slots := 0, locals := 260 } : Room) s m ([.ref ad] : List Value).toArray below meth c H locs 0 0 (MQ below (va_Qi (S := va_W) (fun x w => x = res ∧ J w) (mB G (tyH cI cS) A (fun w => w)) A) ([.ref ad] : List Value).toArray s 0 0 A) (F0 m 510 ls [])) ∧ (∀ (x1 : Int32) (x2 : Int32) (x3 : Int32) (x5 : Int32) (x7 : Int32) (x8 : Int32) (x9 : Int32) (x10 : Int32) (x11 : Int32) (x12 : Int32) (ws : va_W) (H : Heap) (locs : List Loc) (hf : rL_hangs aM aL aC aW aA aT aO aS aG vsh vcs vwo fu 13 x1 x2 x3 0 x5 0 x7 x8 x9 x10 x11 x12 0 0 0 0 0 = some res) (hJ : J ws) (hP : va_P G vwCl ws H) (hD : va_D A ws) (hS : va_S A s.heap H locs) (ls : Array Slot) (hl : lv_has ls 14 [(0, .ref ad), (1, .int x1), (2, .int x2), (3, .int x3), (5, .int x5), (7, .int x7), (8, .int x8), (9, .int x9), (10, .int x10), (11, .int x11), (12, .int x12)]), W p l e ({ frames := 9, cells := 0, slots := 0, locals := 260 } : Room) s m ([.ref ad] : List Value).toArray below meth c H locs 0 0 (MQ below (va_Qi (S := va_W) (fun x w => x = res ∧ J w) (mB G (tyH cI cS) A (fun w => w)) A) ([.ref ad] : List Value).toArray s 0 0 A) (F0 m 540 ls [])) ∧ (∀ (x1 : Int32) (x2 : Int32) (x3 : Int32) (x5 : Int32) (x7 : Int32) (x8 : Int32) (x9 : Int32) (x11 : Int32) (x12 : Int32) (s0 : Int32) (s1 : Int32) (ws : va_W) (H : Heap) (locs : List Loc) (hf : rL_hangs aM aL aC aW aA aT aO aS aG vsh vcs vwo fu 14 x1 x2 x3 0 x5 0 x7 x8 x9 0 x11 x12 0 s0 s1 0 0 = some res) (hJ : J ws) (hP : va_P G vwCl ws H) (hD : va_D A ws) (hS : va_S A s.heap H locs) (ls : Array Slot) (hl : lv_has ls 14 [(0, .ref ad), (1, .int x1), (2, .int x2), (3, .int x3), (5, .int x5), (7, .int x7), (8, .int x8), (9, .int x9), (11, .int x11), (12, .int x12)]), W p l e ({ frames := 9, cells := 0, slots := 0, locals := 260 } : Room) s m ([.ref ad] : List Value).toArray below meth c H locs 0 0 (MQ below (va_Qi (S := va_W) (fun x w => x = res ∧ J w) (mB G (tyH cI cS) A (fun w => w)) A) ([.ref ad] : List Value).toArray s 0 0 A) (F0 m 578 ls [.int s0, .int s1])) ∧ (∀ (x1 : Int32) (x2 : Int32) (x3 : Int32) (x5 : Int32) (x7 : Int32) (x8 : Int32) (x9 : Int32) (x10 : Int32) (x11 : Int32) (x12 : Int32) (ws : va_W) (H : Heap) (locs : List Loc) (hf : rL_hangs aM aL aC aW aA aT aO aS aG vsh vcs vwo fu 15 x1 x2 x3 0 x5 0 x7 x8 x9 x10 x11 x12 0 0 0 0 0 = some res) (hJ : J ws) (hP : va_P G vwCl ws H) (hD : va_D A ws) (hS : va_S A s.heap H locs) (ls : Array Slot) (hl : lv_has ls 14 [(0, .ref ad), (1, .int x1), (2, .int x2), (3, .int x3), (5, .int x5), (7, .int x7), (8, .int x8), (9, .int x9), (10, .int x10), (11, .int x11), (12, .int x12)]), W p l e ({ frames := 9, cells := 0, slots := 0, locals := 260 } : Room) s m ([.ref ad] : List Value).toArray below meth c H locs 0 0 (MQ below (va_Qi (S := va_W) (fun x w => x = res ∧ J w) (mB G (tyH cI cS) A (fun w => w)) A) ([.ref ad] : List Value).toArray s 0 0 A) (F0 m 615 ls [])) ∧ (∀ (x1 : Int32) (x2 : Int32) (x3 : Int32) (x4 : Int32) (x5 : Int32) (x7 : Int32) (ws : va_W) (H : Heap) (locs : List Loc) (hf : rL_hangs aM aL aC aW aA aT aO aS aG vsh vcs vwo fu 16 x1 x2 x3 x4 x5 0 x7 0 0 0 0 0 0 0 0 0 0 = some res) (hJ : J ws) (hP : va_P G vwCl ws H) (hD : va_D A ws) (hS : va_S A s.heap H locs) (ls : Array Slot) (hl : lv_has ls 14 [(0, .ref ad), (1, .int x1), (2, .int x2), (3, .int x3), (4, .int x4), (5, .int x5), (7, .int x7)]), W p l e ({ frames := 9, cells := 0, slots := 0, locals := 260 } : Room) s m ([.ref ad] : List Value).toArray below meth c H locs 0 0 (MQ below (va_Qi (S := va_W) (fun x w => x = res ∧ J w) (mB G (tyH cI cS) A (fun w => w)) A) ([.ref ad] : List Value).toArray s 0 0 A) (F0 m 790 ls [])) ∧ (∀ (x1 : Int32) (x2 : Int32) (x3 : Int32) (x4 : Int32) (x5 : Int32) (x7 : Int32) (x8 : Int32) (x9 : Int32) (x10 : Int32) (x11 : Int32) (ws : va_W) (H : Heap) (locs : List Loc) (hf : rL_hangs aM aL aC aW aA aT aO aS aG vsh vcs vwo fu 17 x1 x2 x3 x4 x5 0 x7 x8 x9 x10 x11 0 0 0 0 0 0 = some res) (hJ : J ws) (hP : va_P G vwCl ws H) (hD : va_D A ws) (hS : va_S A s.heap H locs) (ls : Array Slot) (hl : lv_has ls 14 [(0, .ref ad), (1, .int x1), (2, .int x2), (3, .int x3), (4, .int x4), (5, .int x5), (7, .int x7), (8, .int x8), (9, .int x9), (10, .int x10), (11, .int x11)]), W p l e ({ frames := 9, cells := 0, slots := 0, locals := 260 } : Room) s m ([.ref ad] : List Value).toArray below meth c H locs 0 0 (MQ below (va_Qi (S := va_W) (fun x w => x = res ∧ J w) (mB G (tyH cI cS) A (fun w => w)) A) ([.ref ad] : List Value).toArray s 0 0 A) (F0 m 803 ls [])) ∧ (∀ (x1 : Int32) (x2 : Int32) (x3 : Int32) (x5 : Int32) (x7 : Int32) (x8 : Int32) (x9 : Int32) (x11 : Int32) (x12 : Int32) (s0 : Int32) (ws : va_W) (H : Heap) (locs : List Loc) (hf : rL_hangs aM aL aC aW aA aT aO aS aG vsh vcs vwo fu 18 x1 x2 x3 0 x5 0 x7 x8 x9 0 x11 x12 0 s0 0 0 0 = some res) (hJ : J ws) (hP : va_P G vwCl ws H) (hD : va_D A ws) (hS : va_S A s.heap H locs) (ls : Array Slot) (hl : lv_has ls 14 [(0, .ref ad), (1, .int x1), (2, .int x2), (3, .int x3), (5, .int x5), (7, .int x7), (8, .int x8), (9, .int x9), (11, .int x11), (12, .int x12)]), W p l e ({ frames := 9, cells := 0, slots := 0, locals := 260 } : Room) s m ([.ref ad] : List Value).toArray below meth c H locs 0 0 (MQ below (va_Qi (S := va_W) (fun x w => x = res ∧ J w) (mB G (tyH cI cS) A (fun w => w)) A) ([.ref ad] : List Value).toArray s 0 0 A) (F0 m 884 ls [.int s0])) ∧ (∀ (x1 : Int32) (x2 : Int32) (x3 : Int32) (x4 : Int32) (x5 : Int32) (x7 : Int32) (x8 : Int32) (x11 : Int32) (s0 : Int32) (s1 : Int32) (ws : va_W) (H : Heap) (locs : List Loc) (hf : rL_hangs aM aL aC aW aA aT aO aS aG vsh vcs vwo fu 19 x1 x2 x3 x4 x5 0 x7 x8 0 0 x11 0 0 s0 s1 0 0 = some res) (hJ : J ws) (hP : va_P G vwCl ws H) (hD : va_D A ws) (hS : va_S A s.heap H locs) (ls : Array Slot) (hl : lv_has ls 14 [(0, .ref ad), (1, .int x1), (2, .int x2), (3, .int x3), (4, .int x4), (5, .int x5), (7, .int x7), (8, .int x8), (11, .int x11)]), W p l e ({ frames := 9, cells := 0, slots := 0, locals := 260 } : Room) s m ([.ref ad] : List Value).toArray below meth c H locs 0 0 (MQ below (va_Qi (S := va_W) (fun x w => x = res ∧ J w) (mB G (tyH cI cS) A (fun w => w)) A) ([.ref ad] : List Value).toArray s 0 0 A) (F0 m 901 ls [.int s0, .int s1])) ∧ (∀ (x1 : Int32) (x2 : Int32) (x3 : Int32) (x4 : Int32) (x5 : Int32) (x7 : Int32) (x8 : Int32) (ws : va_W) (H : Heap) (locs : List Loc) (hf : rL_hangs aM aL aC aW aA aT aO aS aG vsh vcs vwo fu 20 x1 x2 x3 x4 x5 0 x7 x8 0 0 0 0 0 0 0 0 0 = some res) (hJ : J ws) (hP : va_P G vwCl ws H) (hD : va_D A ws) (hS : va_S A s.heap H locs) (ls : Array Slot) (hl : lv_has ls 14 [(0, .ref ad), (1, .int x1), (2, .int x2), (3, .int x3), (4, .int x4), (5, .int x5), (7, .int x7), (8, .int x8)]), W p l e ({ frames := 9, cells := 0, slots := 0, locals := 260 } : Room) s m ([.ref ad] : List Value).toArray below meth c H locs 0 0 (MQ below (va_Qi (S := va_W) (fun x w => x = res ∧ J w) (mB G (tyH cI cS) A (fun w => w)) A) ([.ref ad] : List Value).toArray s 0 0 A) (F0 m 926 ls [])) ∧ (∀ (x3 : Int32) (x5 : Int32) (x11 : Int32) (x12 : Int32) (x13 : Int32) (s0 : Int32) (s1 : Int32) (ws : va_W) (H : Heap) (locs : List Loc) (hf : rL_hangs aM aL aC aW aA aT aO aS aG vsh vcs vwo fu 21 0 0 x3 0 x5 0 0 0 0 0 x11 x12 x13 s0 s1 0 0 = some res) (hJ : J ws) (hP : va_P G vwCl ws H) (hD : va_D A ws) (hS : va_S A s.heap H locs) (ls : Array Slot) (hl : lv_has ls 14 [(0, .ref ad), (3, .int x3), (5, .int x5), (11, .int x11), (12, .int x12), (13, .int x13)]), W p l e ({ frames := 9, cells := 0, slots := 0, locals := 260 } : Room) s m ([.ref ad] : List Value).toArray below meth c H locs 0 0 (MQ below (va_Qi (S := va_W) (fun x w => x = res ∧ J w) (mB G (tyH cI cS) A (fun w => w)) A) ([.ref ad] : List Value).toArray s 0 0 A) (F0 m 1027 ls [.int s0, .int s1])) ∧ (∀ (x3 : Int32) (x5 : Int32) (x12 : Int32) (x13 : Int32) (s0 : Int32) (ws : va_W) (H : Heap) (locs : List Loc) (hf : rL_hangs aM aL aC aW aA aT aO aS aG vsh vcs vwo fu 22 0 0 x3 0 x5 0 0 0 0 0 0 x12 x13 s0 0 0 0 = some res) (hJ : J ws) (hP : va_P G vwCl ws H) (hD : va_D A ws) (hS : va_S A s.heap H locs) (ls : Array Slot) (hl : lv_has ls 14 [(0, .ref ad), (3, .int x3), (5, .int x5), (12, .int x12), (13, .int x13)]), W p l e ({ frames := 9, cells := 0, slots := 0, locals := 260 } : Room) s m ([.ref ad] : List Value).toArray below meth c H locs 0 0 (MQ below (va_Qi (S := va_W) (fun x w => x = res ∧ J w) (mB G (tyH cI cS) A (fun w => w)) A) ([.ref ad] : List Value).toArray s 0 0 A) (F0 m 1047 ls [.int s0])) ∧ (∀ (x3 : Int32) (x5 : Int32) (x12 : Int32) (x13 : Int32) (s0 : Int32) (s1 : Int32) (ws : va_W) (H : Heap) (locs : List Loc) (hf : rL_hangs aM aL aC aW aA aT aO aS aG vsh vcs vwo fu 23 0 0 x3 0 x5 0 0 0 0 0 0 x12 x13 s0 s1 0 0 = some res) (hJ : J ws) (hP : va_P G vwCl ws H) (hD : va_D A ws) (hS : va_S A s.heap H locs) (ls : Array Slot) (hl : lv_has ls 14 [(0, .ref ad), (3, .int x3), (5, .int x5), (12, .int x12), (13, .int x13)]), W p l e ({ frames := 9, cells := 0, slots := 0, locals := 260 } : Room) s m ([.ref ad] : List Value).toArray below meth c H locs 0 0 (MQ below (va_Qi (S := va_W) (fun x w => x = res ∧ J w) (mB G (tyH cI cS) A (fun w => w)) A) ([.ref ad] : List Value).toArray s 0 0 A) (F0 m 1058 ls [.int s0, .int s1])) ∧ (∀ (x5 : Int32) (q0 : UInt64) (q1 : UInt64) (ws : va_W) (H : Heap) (locs : List Loc) (hf : rL_hangs aM aL aC aW aA aT aO aS aG vsh vcs vwo fu 24 0 0 0 0 x5 0 0 0 0 0 0 0 0 0 0 q0 q1 = some res) (hJ : J ws) (hP : va_P G vwCl ws H) (hD : va_D A ws) (hS : va_S A s.heap H locs) (ls : Array Slot) (hl : lv_has ls 14 [(0, .ref ad), (5, .int x5)]), W p l e ({ frames := 9, cells := 0, slots := 0, locals := 260 } : Room) s m ([.ref ad] : List Value).toArray below meth c H locs 0 0 (MQ below (va_Qi (S := va_W) (fun x w => x = res ∧ J w) (mB G (tyH cI cS) A (fun w => w)) A) ([.ref ad] : List Value).toArray s 0 0 A) (F0 m 1094 ls [.double q0, .double q1])) := by
    intro fu
    induction fu with
    | zero => exact ⟨(fun _ _ _ _ _ ws H locs hf => (by cases hf)), (fun _ _ _ _ _ _ _ _ ws H locs hf => (by cases hf)), (fun _ _ _ _ _ _ _ _ _ _ ws H locs hf => (by cases hf)), (fun _ _ _ _ _ _ _ _ _ _ ws H locs hf => (by cases hf)), (fun _ _ _ _ _ _ _ _ _ _ _ ws H locs hf => (by cases hf)), (fun _ _ _ _ _ _ _ ws H locs hf => (by cases hf)), (fun _ _ _ _ _ ws H locs hf => (by cases hf)), (fun _ _ _ _ ws H locs hf => (by cases hf)), (fun _ _ _ _ _ _ _ ws H locs hf => (by cases hf)), (fun _ _ _ _ _ _ ws H locs hf => (by cases hf)), (fun _ _ _ _ _ ws H locs hf => (by cases hf)), (fun _ _ _ _ _ _ _ ws H locs hf => (by cases hf)), (fun _ _ _ _ _ _ _ _ _ _ ws H locs hf => (by cases hf)), (fun _ _ _ _ _ _ _ _ _ _ _ ws H locs hf => (by cases hf)), (fun _ _ _ _ _ _ _ _ _ _ ws H locs hf => (by cases hf)), (fun _ _ _ _ _ _ ws H locs hf => (by cases hf)), (fun _ _ _ _ _ _ _ _ _ _ ws H locs hf => (by cases hf)), (fun _ _ _ _ _ _ _ _ _ _ ws H locs hf => (by cases hf)), (fun _ _ _ _ _ _ _ _ _ _ ws H locs hf => (by cases hf)), (fun _ _ _ _ _ _ _ ws H locs hf => (by cases hf)), (fun _ _ _ _ _ _ _ ws H locs hf => (by cases hf)), (fun _ _ _ _ _ ws H locs hf => (by cases hf)), (fun _ _ _ _ _ _ ws H locs hf => (by cases hf)), (fun _ _ _ ws H locs hf => (by cases hf))⟩
    | succ fu ih =>
      refine ⟨?_, ?_, ?_, ?_, ?_, ?_, ?_, ?_, ?_, ?_, ?_, ?_, ?_, ?_, ?_, ?_, ?_, ?_, ?_, ?_, ?_, ?_, ?_, ?_⟩
      · intro x1 x2 x3 x4 x5 ws H locs hf hJ hP hD hS ls hl
        replace hf : bL_hangs_1 aM aL aC aW aA aT aO aS aG vsh vcs vwo (rL_hangs aM aL aC aW aA aT aO aS aG vsh vcs vwo fu) x1 x2 x3 x4 x5 0 0 0 0 0 0 0 0 0 0 0 0 = some res := hf
        unfold bL_hangs_1 at hf
        refine lv_iload hx hb dL_hangs_12 (lv_at hl 5 rfl) ?_
        refine lv_bipush (v := 6) hx hb dL_hangs_14 (by decide) ?_
        refine lv_icmp_ge (tgt := 379) hx hb dL_hangs_16 (by decide) (fun c1 => ?_) (fun c1 => ?_)
        · have hf := pf_t hf c1
          exact ih.2.2.2.2.2.2.2.1 x1 x2 x3 x4 ws H locs hf hJ hP hD hS ls (lv_sub hl [0, 1, 2, 3, 4] rfl)
        · have hf := pf_f hf c1
          refine lv_iload hx hb dL_hangs_19 (lv_at hl 4 rfl) ?_
          refine lv_if_eq (tgt := 379) hx hb dL_hangs_21 (by decide) (fun c2 => ?_) (fun c2 => ?_)
          · have hf := pf_t hf c2
            exact ih.2.2.2.2.2.2.2.1 x1 x2 x3 x4 ws H locs hf hJ hP hD hS ls (lv_sub hl [0, 1, 2, 3, 4] rfl)
          · have hf := pf_f hf c2
            refine lv_iconst (v := 0) hx hb dL_hangs_24 (by decide) ?_
            refine lv_istore (lv' := [(6, .int 0), (0, .ref ad), (1, .int x1), (2, .int x2), (3, .int x3), (4, .int x4), (5, .int x5)]) hx hb dL_hangs_25 hl (by decide) rfl (fun ls hl => ?_)
            refine lv_iconst (v := 0) hx hb dL_hangs_27 (by decide) ?_
            refine lv_istore (lv' := [(7, .int 0), (6, .int 0), (0, .ref ad), (1, .int x1), (2, .int x2), (3, .int x3), (4, .int x4), (5, .int x5)]) hx hb dL_hangs_28 hl (by decide) rfl (fun ls hl => ?_)
            refine lv_iconst (v := 0) hx hb dL_hangs_30 (by decide) ?_
            refine lv_istore (lv' := [(8, .int 0), (7, .int 0), (6, .int 0), (0, .ref ad), (1, .int x1), (2, .int x2), (3, .int x3), (4, .int x4), (5, .int x5)]) hx hb dL_hangs_31 hl (by decide) rfl (fun ls hl => ?_)
            exact ih.2.1 x1 x2 x3 x4 x5 (0 : Int32) (0 : Int32) (0 : Int32) ws H locs hf hJ hP hD hS ls (lv_sub hl [3, 4, 5, 6, 7, 8, 2, 1, 0] rfl)
      · intro x1 x2 x3 x4 x5 x6 x7 x8 ws H locs hf hJ hP hD hS ls hl
        replace hf : bL_hangs_2 aM aL aC aW aA aT aO aS aG vsh vcs vwo (rL_hangs aM aL aC aW aA aT aO aS aG vsh vcs vwo fu) x1 x2 x3 x4 x5 x6 x7 x8 0 0 0 0 0 0 0 0 0 = some res := hf
        unfold bL_hangs_2 at hf
        refine lv_iload hx hb dL_hangs_33 (lv_at hl 8 rfl) ?_
        refine lv_bipush (v := 30) hx hb dL_hangs_35 (by decide) ?_
        refine lv_icmp_ge (tgt := 231) hx hb dL_hangs_37 (by decide) (fun c3 => ?_) (fun c3 => ?_)
        · have hf := pf_t hf c3
          exact ih.2.2.2.2.2.1 x1 x2 x3 x4 x5 x6 x7 ws H locs hf hJ hP hD hS ls (lv_sub hl [0, 1, 2, 3, 4, 5, 6, 7] rfl)
        · have hf := pf_f hf c3
          refine lv_iload hx hb dL_hangs_40 (lv_at hl 4 rfl) ?_
          refine lv_if_eq (tgt := 231) hx hb dL_hangs_42 (by decide) (fun c4 => ?_) (fun c4 => ?_)
          · have hf := pf_t hf c4
            exact ih.2.2.2.2.2.1 x1 x2 x3 x4 x5 x6 x7 ws H locs hf hJ hP hD hS ls (lv_sub hl [0, 1, 2, 3, 4, 5, 6, 7] rfl)
          · have hf := pf_f hf c4
            refine lv_aload_n hx hb dL_hangs_45 rfl (lv_at hl 0 rfl) ?_
            refine lv_iload hx hb dL_hangs_46 (lv_at hl 5 rfl) ?_
            refine lv_iload hx hb dL_hangs_48 (lv_at hl 8 rfl) ?_
            refine lv_iconst (v := 0) hx hb dL_hangs_50 (by decide) ?_
            obtain ⟨u5, hu5, hf⟩ := pf_b hf
            refine (haM x5 x8 (0 : Int32) _ _ hu5 hJ).call 4 hE ⟨hx, hb, hml, hown, hts⟩ gL_hangs_L_meaning rfl (by decide) (by decide +kernel) ⟨Nat.le_of_ble_eq_true rfl, Nat.le_of_ble_eq_true rfl⟩ hP hD hS hA hK rfl hl.1 rfl (lv_room (Nat.le_of_ble_eq_true rfl)) dL_hangs_51 ⟨Nat.le_refl _, Nat.le_refl _⟩ (fun k9 ws H locs h9 hP hD hS => ?_)
            obtain ⟨rfl, hJ⟩ := h9
            refine lv_istore (lv' := [(9, .int u5), (0, .ref ad), (1, .int x1), (2, .int x2), (3, .int x3), (4, .int x4), (5, .int x5), (6, .int x6), (7, .int x7), (8, .int x8)]) hx hb dL_hangs_54 hl (by decide) rfl (fun ls hl => ?_)
            refine lv_aload_n hx hb dL_hangs_56 rfl (lv_at hl 1 rfl) ?_
            refine lv_iload hx hb dL_hangs_57 (lv_at hl 6 rfl) ?_
            refine lv_iload hx hb dL_hangs_59 (lv_at hl 9 rfl) ?_
            refine lv_iconst (v := 1) hx hb dL_hangs_61 (by decide) ?_
            obtain ⟨u6, hu6, hf⟩ := pf_b hf
            refine (haM x5 x8 (1 : Int32) _ _ hu6 hJ).call 4 hE ⟨hx, hb, hml, hown, hts⟩ gL_hangs_L_meaning rfl (by decide) (by decide +kernel) ⟨Nat.le_of_ble_eq_true rfl, Nat.le_of_ble_eq_true rfl⟩ hP hD hS hA hK rfl hl.1 rfl (lv_room (Nat.le_of_ble_eq_true rfl)) dL_hangs_62 ⟨Nat.le_refl _, Nat.le_refl _⟩ (fun k9 ws H locs h9 hP hD hS => ?_)
            obtain ⟨rfl, hJ⟩ := h9
            refine lv_istore (lv' := [(10, .int u6), (9, .int u5), (0, .ref ad), (1, .int x1), (2, .int x2), (3, .int x3), (4, .int x4), (5, .int x5), (6, .int x6), (7, .int x7), (8, .int x8)]) hx hb dL_hangs_65 hl (by decide) rfl (fun ls hl => ?_)
            refine lv_aload_n hx hb dL_hangs_67 rfl (lv_at hl 2 rfl) ?_
            refine lv_iload hx hb dL_hangs_68 (lv_at hl 7 rfl) ?_
            refine lv_iload hx hb dL_hangs_70 (lv_at hl 10 rfl) ?_
            refine lv_iconst (v := 2) hx hb dL_hangs_72 (by decide) ?_
            obtain ⟨u7, hu7, hf⟩ := pf_b hf
            refine (haM x5 x8 (2 : Int32) _ _ hu7 hJ).call 4 hE ⟨hx, hb, hml, hown, hts⟩ gL_hangs_L_meaning rfl (by decide) (by decide +kernel) ⟨Nat.le_of_ble_eq_true rfl, Nat.le_of_ble_eq_true rfl⟩ hP hD hS hA hK rfl hl.1 rfl (lv_room (Nat.le_of_ble_eq_true rfl)) dL_hangs_73 ⟨Nat.le_refl _, Nat.le_refl _⟩ (fun k9 ws H locs h9 hP hD hS => ?_)
            obtain ⟨rfl, hJ⟩ := h9
            refine lv_istore (lv' := [(11, .int u7), (10, .int u6), (9, .int u5), (0, .ref ad), (1, .int x1), (2, .int x2), (3, .int x3), (4, .int x4), (5, .int x5), (6, .int x6), (7, .int x7), (8, .int x8)]) hx hb dL_hangs_76 hl (by decide) rfl (fun ls hl => ?_)
            refine lv_iload hx hb dL_hangs_78 (lv_at hl 2 rfl) ?_
            refine lv_iconst (v := (-1)) hx hb dL_hangs_80 (by decide) ?_
            refine lv_icmp_lt (tgt := 184) hx hb dL_hangs_81 (by decide) (fun c8 => ?_) (fun c8 => ?_)
            · have hf := pf_t hf c8
              refine lv_iconst (v := 0) hx hb dL_hangs_184 (by decide) ?_
              exact ih.2.2.2.1 x1 x2 x3 x5 x6 x7 x8 u5 u6 (0 : Int32) ws H locs hf hJ hP hD hS ls (lv_sub hl [3, 4, 5, 6, 8, 9, 10, 11, 2, 1] rfl)
            · have hf := pf_f hf c8
              refine lv_iload hx hb dL_hangs_84 (lv_at hl 2 rfl) ?_
              refine lv_bipush (v := 30) hx hb dL_hangs_86 (by decide) ?_
              refine lv_icmp_ge (tgt := 184) hx hb dL_hangs_88 (by decide) (fun c9 => ?_) (fun c9 => ?_)
              · have hf := pf_t hf c9
                refine lv_iconst (v := 0) hx hb dL_hangs_184 (by decide) ?_
                exact ih.2.2.2.1 x1 x2 x3 x5 x6 x7 x8 u5 u6 (0 : Int32) ws H locs hf hJ hP hD hS ls (lv_sub hl [3, 4, 5, 6, 8, 9, 10, 11, 2, 1] rfl)
              · have hf := pf_f hf c9
                refine lv_iload hx hb dL_hangs_91 (lv_at hl 2 rfl) ?_
                refine lv_iconst (v := (-1)) hx hb dL_hangs_93 (by decide) ?_
                refine lv_icmp_ne (tgt := 107) hx hb dL_hangs_94 (by decide) (fun c10 => ?_) (fun c10 => ?_)
                · have hf := pf_f hf c10
                  refine lv_iload hx hb dL_hangs_107 (lv_at hl 1 rfl) ?_
                  refine lv_if_lt (tgt := 184) hx hb dL_hangs_109 (by decide) (fun c11 => ?_) (fun c11 => ?_)
                  · have hf := pf_t hf c11
                    refine lv_iconst (v := 0) hx hb dL_hangs_184 (by decide) ?_
                    exact ih.2.2.2.1 x1 x2 x3 x5 x6 x7 x8 u5 u6 (0 : Int32) ws H locs hf hJ hP hD hS ls (lv_sub hl [3, 4, 5, 6, 8, 9, 10, 11, 2, 1] rfl)
                  · have hf := pf_f hf c11
                    refine lv_iload hx hb dL_hangs_112 (lv_at hl 1 rfl) ?_
                    refine lv_iload hx hb dL_hangs_114 (lv_at hl 11 rfl) ?_
                    refine lv_icmp_gt (tgt := 184) hx hb dL_hangs_116 (by decide) (fun c12 => ?_) (fun c12 => ?_)
                    · have hf := pf_t hf c12
                      refine lv_iconst (v := 0) hx hb dL_hangs_184 (by decide) ?_
                      exact ih.2.2.2.1 x1 x2 x3 x5 x6 x7 x8 u5 u6 (0 : Int32) ws H locs hf hJ hP hD hS ls (lv_sub hl [3, 4, 5, 6, 8, 9, 10, 11, 2, 1] rfl)
                    · have hf := pf_f hf c12
                      refine lv_aload_n hx hb dL_hangs_119 rfl (lv_at hl 3 rfl) ?_
                      refine lv_iload hx hb dL_hangs_120 (lv_at hl 8 rfl) ?_
                      refine lv_iload hx hb dL_hangs_122 (lv_at hl 1 rfl) ?_
                      refine lv_iconst (v := 0) hx hb dL_hangs_124 (by decide) ?_
                      obtain ⟨u13, hu13, hf⟩ := pf_b hf
                      refine (haM x5 u6 (0 : Int32) _ _ hu13 hJ).call 4 hE ⟨hx, hb, hml, hown, hts⟩ gL_hangs_L_meaning rfl (by decide) (by decide +kernel) ⟨Nat.le_of_ble_eq_true rfl, Nat.le_of_ble_eq_true rfl⟩ hP hD hS hA hK rfl hl.1 rfl (lv_room (Nat.le_of_ble_eq_true rfl)) dL_hangs_125 ⟨Nat.le_refl _, Nat.le_refl _⟩ (fun k9 ws H locs h9 hP hD hS => ?_)
                      obtain ⟨rfl, hJ⟩ := h9
                      refine lv_iload hx hb dL_hangs_128 (lv_at hl 2 rfl) ?_
                      refine lv_icmp_ne (tgt := 184) hx hb dL_hangs_130 (by decide) (fun c14 => ?_) (fun c14 => ?_)
                      · have hf := pf_f hf c14
                        refine lv_iconst (v := 0) hx hb dL_hangs_184 (by decide) ?_
                        exact ih.2.2.2.1 x1 x2 x3 x5 x6 x7 x8 u5 u6 (0 : Int32) ws H locs hf hJ hP hD hS ls (lv_sub hl [3, 4, 5, 6, 8, 9, 10, 11, 2, 1] rfl)
                      · have hf := pf_t hf c14
                        refine lv_aload_n hx hb dL_hangs_133 rfl (lv_at hl 3 rfl) ?_
                        refine lv_iload hx hb dL_hangs_134 (lv_at hl 8 rfl) ?_
                        refine lv_iload hx hb dL_hangs_136 (lv_at hl 2 rfl) ?_
                        refine lv_iconst (v := 2) hx hb dL_hangs_138 (by decide) ?_
                        obtain ⟨u15, hu15, hf⟩ := pf_b hf
                        refine (haM x5 u5 (2 : Int32) _ _ hu15 hJ).call 4 hE ⟨hx, hb, hml, hown, hts⟩ gL_hangs_L_meaning rfl (by decide) (by decide +kernel) ⟨Nat.le_of_ble_eq_true rfl, Nat.le_of_ble_eq_true rfl⟩ hP hD hS hA hK rfl hl.1 rfl (lv_room (Nat.le_of_ble_eq_true rfl)) dL_hangs_139 ⟨Nat.le_refl _, Nat.le_refl _⟩ (fun k9 ws H locs h9 hP hD hS => ?_)
                        obtain ⟨rfl, hJ⟩ := h9
                        refine lv_iload hx hb dL_hangs_142 (lv_at hl 1 rfl) ?_
                        refine lv_icmp_ne (tgt := 184) hx hb dL_hangs_144 (by decide) (fun c16 => ?_) (fun c16 => ?_)
                        · have hf := pf_f hf c16
                          refine lv_iconst (v := 0) hx hb dL_hangs_184 (by decide) ?_
                          exact ih.2.2.2.1 x1 x2 x3 x5 x6 x7 x8 u5 u6 (0 : Int32) ws H locs hf hJ hP hD hS ls (lv_sub hl [3, 4, 5, 6, 8, 9, 10, 11, 2, 1] rfl)
                        · have hf := pf_t hf c16
                          exact ih.2.2.1 x1 x2 x3 x5 x6 x7 x8 u5 u6 u7 ws H locs hf hJ hP hD hS ls (lv_sub hl [3, 4, 5, 6, 8, 9, 10, 11, 2, 1, 0] rfl)
                · have hf := pf_t hf c10
                  refine lv_iload hx hb dL_hangs_97 (lv_at hl 1 rfl) ?_
                  refine lv_bipush (v := 30) hx hb dL_hangs_99 (by decide) ?_
                  refine lv_icmp_ne (tgt := 184) hx hb dL_hangs_101 (by decide) (fun c17 => ?_) (fun c17 => ?_)
                  · have hf := pf_f hf c17
                    refine lv_iconst (v := 0) hx hb dL_hangs_184 (by decide) ?_
                    exact ih.2.2.2.1 x1 x2 x3 x5 x6 x7 x8 u5 u6 (0 : Int32) ws H locs hf hJ hP hD hS ls (lv_sub hl [3, 4, 5, 6, 8, 9, 10, 11, 2, 1] rfl)
                  · have hf := pf_t hf c17
                    refine lv_goto (tgt := 147) hx hb dL_hangs_104 (by decide) ?_
                    exact ih.2.2.1 x1 x2 x3 x5 x6 x7 x8 u5 u6 u7 ws H locs hf hJ hP hD hS ls (lv_sub hl [3, 4, 5, 6, 8, 9, 10, 11, 2, 1, 0] rfl)
      · intro x1 x2 x3 x5 x6 x7 x8 x9 x10 x11 ws H locs hf hJ hP hD hS ls hl
        replace hf : bL_hangs_3 aM aL aC aW aA aT aO aS aG vsh vcs vwo (rL_hangs aM aL aC aW aA aT aO aS aG vsh vcs vwo fu) x1 x2 x3 0 x5 x6 x7 x8 x9 x10 x11 0 0 0 0 0 0 = some res := hf
        unfold bL_hangs_3 at hf
        refine lv_iload hx hb dL_hangs_147 (lv_at hl 10 rfl) ?_
        refine lv_if_lt (tgt := 184) hx hb dL_hangs_149 (by decide) (fun c18 => ?_) (fun c18 => ?_)
        · have hf := pf_t hf c18
          refine lv_iconst (v := 0) hx hb dL_hangs_184 (by decide) ?_
          exact ih.2.2.2.1 x1 x2 x3 x5 x6 x7 x8 x9 x10 (0 : Int32) ws H locs hf hJ hP hD hS ls (lv_sub hl [0, 1, 2, 3, 4, 5, 6, 7, 8, 9] rfl)
        · have hf := pf_f hf c18
          refine lv_iload hx hb dL_hangs_152 (lv_at hl 10 rfl) ?_
          refine lv_bipush (v := 30) hx hb dL_hangs_154 (by decide) ?_
          refine lv_icmp_gt (tgt := 184) hx hb dL_hangs_156 (by decide) (fun c19 => ?_) (fun c19 => ?_)
          · have hf := pf_t hf c19
            refine lv_iconst (v := 0) hx hb dL_hangs_184 (by decide) ?_
            exact ih.2.2.2.1 x1 x2 x3 x5 x6 x7 x8 x9 x10 (0 : Int32) ws H locs hf hJ hP hD hS ls (lv_sub hl [0, 1, 2, 3, 4, 5, 6, 7, 8, 9] rfl)
          · have hf := pf_f hf c19
            refine lv_iload hx hb dL_hangs_159 (lv_at hl 10 rfl) ?_
            refine lv_bipush (v := 30) hx hb dL_hangs_161 (by decide) ?_
            refine lv_icmp_eq (tgt := 180) hx hb dL_hangs_163 (by decide) (fun c20 => ?_) (fun c20 => ?_)
            · have hf := pf_t hf c20
              refine lv_iconst (v := 1) hx hb dL_hangs_180 (by decide) ?_
              refine lv_goto (tgt := 185) hx hb dL_hangs_181 (by decide) ?_
              exact ih.2.2.2.1 x1 x2 x3 x5 x6 x7 x8 x9 x10 (1 : Int32) ws H locs hf hJ hP hD hS ls (lv_sub hl [0, 1, 2, 3, 4, 5, 6, 7, 8, 9] rfl)
            · have hf := pf_f hf c20
              refine lv_aload_n hx hb dL_hangs_166 rfl (lv_at hl 0 rfl) ?_
              refine lv_iload hx hb dL_hangs_167 (lv_at hl 4 rfl) ?_
              refine lv_iload hx hb dL_hangs_169 (lv_at hl 10 rfl) ?_
              refine lv_iconst (v := 0) hx hb dL_hangs_171 (by decide) ?_
              obtain ⟨u21, hu21, hf⟩ := pf_b hf
              refine (haM x5 x11 (0 : Int32) _ _ hu21 hJ).call 4 hE ⟨hx, hb, hml, hown, hts⟩ gL_hangs_L_meaning rfl (by decide) (by decide +kernel) ⟨Nat.le_of_ble_eq_true rfl, Nat.le_of_ble_eq_true rfl⟩ hP hD hS hA hK rfl hl.1 rfl (lv_room (Nat.le_of_ble_eq_true rfl)) dL_hangs_172 ⟨Nat.le_refl _, Nat.le_refl _⟩ (fun k9 ws H locs h9 hP hD hS => ?_)
              obtain ⟨rfl, hJ⟩ := h9
              refine lv_iload hx hb dL_hangs_175 (lv_at hl 7 rfl) ?_
              refine lv_icmp_ne (tgt := 184) hx hb dL_hangs_177 (by decide) (fun c22 => ?_) (fun c22 => ?_)
              · have hf := pf_f hf c22
                refine lv_iconst (v := 0) hx hb dL_hangs_184 (by decide) ?_
                exact ih.2.2.2.1 x1 x2 x3 x5 x6 x7 x8 x9 x10 (0 : Int32) ws H locs hf hJ hP hD hS ls (lv_sub hl [0, 1, 2, 3, 4, 5, 6, 7, 8, 9] rfl)
              · have hf := pf_t hf c22
                refine lv_iconst (v := 1) hx hb dL_hangs_180 (by decide) ?_
                refine lv_goto (tgt := 185) hx hb dL_hangs_181 (by decide) ?_
                exact ih.2.2.2.1 x1 x2 x3 x5 x6 x7 x8 x9 x10 (1 : Int32) ws H locs hf hJ hP hD hS ls (lv_sub hl [0, 1, 2, 3, 4, 5, 6, 7, 8, 9] rfl)
      · intro x1 x2 x3 x5 x6 x7 x8 x9 x10 s0 ws H locs hf hJ hP hD hS ls hl
        replace hf : bL_hangs_4 aM aL aC aW aA aT aO aS aG vsh vcs vwo (rL_hangs aM aL aC aW aA aT aO aS aG vsh vcs vwo fu) x1 x2 x3 0 x5 x6 x7 x8 x9 x10 0 0 0 s0 0 0 0 = some res := hf
        unfold bL_hangs_4 at hf
        refine lv_istore (lv' := [(4, .int s0), (0, .ref ad), (1, .int x1), (2, .int x2), (3, .int x3), (5, .int x5), (6, .int x6), (7, .int x7), (8, .int x8), (9, .int x9), (10, .int x10)]) hx hb dL_hangs_185 hl (by decide) rfl (fun ls hl => ?_)
        refine lv_iload hx hb dL_hangs_187 (lv_at hl 6 rfl) ?_
        refine lv_iload hx hb dL_hangs_189 (lv_at hl 9 rfl) ?_
        refine lv_iconst (v := (-1)) hx hb dL_hangs_191 (by decide) ?_
        refine lv_icmp_ne (tgt := 199) hx hb dL_hangs_192 (by decide) (fun c23 => ?_) (fun c23 => ?_)
        · have hf := pf_f hf c23
          refine lv_iconst (v := 0) hx hb dL_hangs_199 (by decide) ?_
          exact ih.2.2.2.2.1 x1 x2 x3 s0 x5 x7 x8 x9 x10 (0 : Int32) x6 ws H locs hf hJ hP hD hS ls (lv_sub hl [1, 2, 3, 4, 0, 5, 7, 8, 9, 10] rfl)
        · have hf := pf_t hf c23
          refine lv_iconst (v := 1) hx hb dL_hangs_195 (by decide) ?_
          refine lv_goto (tgt := 200) hx hb dL_hangs_196 (by decide) ?_
          exact ih.2.2.2.2.1 x1 x2 x3 s0 x5 x7 x8 x9 x10 (1 : Int32) x6 ws H locs hf hJ hP hD hS ls (lv_sub hl [1, 2, 3, 4, 0, 5, 7, 8, 9, 10] rfl)
      · intro x1 x2 x3 x4 x5 x7 x8 x9 x10 s0 s1 ws H locs hf hJ hP hD hS ls hl
        replace hf : bL_hangs_5 aM aL aC aW aA aT aO aS aG vsh vcs vwo (rL_hangs aM aL aC aW aA aT aO aS aG vsh vcs vwo fu) x1 x2 x3 x4 x5 0 x7 x8 x9 x10 0 0 0 s0 s1 0 0 = some res := hf
        unfold bL_hangs_5 at hf
        refine lv_iadd hx hb dL_hangs_200 ?_
        refine lv_istore (lv' := [(6, .int (s1 + s0)), (0, .ref ad), (1, .int x1), (2, .int x2), (3, .int x3), (4, .int x4), (5, .int x5), (7, .int x7), (8, .int x8), (9, .int x9), (10, .int x10)]) hx hb dL_hangs_201 hl (by decide) rfl (fun ls hl => ?_)
        refine lv_iload hx hb dL_hangs_203 (lv_at hl 7 rfl) ?_
        refine lv_iload hx hb dL_hangs_205 (lv_at hl 9 rfl) ?_
        refine lv_if_lt (tgt := 221) hx hb dL_hangs_207 (by decide) (fun c24 => ?_) (fun c24 => ?_)
        · have hf := pf_t hf c24
          refine lv_iconst (v := 0) hx hb dL_hangs_221 (by decide) ?_
          refine lv_iadd hx hb dL_hangs_222 ?_
          refine lv_istore (lv' := [(7, .int (x7 + (0 : Int32))), (6, .int (s1 + s0)), (0, .ref ad), (1, .int x1), (2, .int x2), (3, .int x3), (4, .int x4), (5, .int x5), (8, .int x8), (9, .int x9), (10, .int x10)]) hx hb dL_hangs_223 hl (by decide) rfl (fun ls hl => ?_)
          refine lv_iinc (v := x8 + 1) (lv' := [(8, .int (x8 + 1)), (7, .int (x7 + (0 : Int32))), (6, .int (s1 + s0)), (0, .ref ad), (1, .int x1), (2, .int x2), (3, .int x3), (4, .int x4), (5, .int x5), (9, .int x9), (10, .int x10)]) hx hb dL_hangs_225 hl (k := 8) rfl rfl (by decide) rfl (fun ls hl => ?_)
          refine lv_goto (tgt := 33) hx hb dL_hangs_228 (by decide) ?_
          exact ih.2.1 x1 x2 x3 x4 x5 (s1 + s0) (x7 + (0 : Int32)) (x8 + 1) ws H locs hf hJ hP hD hS ls (lv_sub hl [3, 4, 5, 6, 7, 8, 2, 1, 0] rfl)
        · have hf := pf_f hf c24
          refine lv_iload hx hb dL_hangs_210 (lv_at hl 10 rfl) ?_
          refine lv_iload hx hb dL_hangs_212 (lv_at hl 8 rfl) ?_
          refine lv_icmp_ge (tgt := 221) hx hb dL_hangs_214 (by decide) (fun c25 => ?_) (fun c25 => ?_)
          · have hf := pf_t hf c25
            refine lv_iconst (v := 0) hx hb dL_hangs_221 (by decide) ?_
            refine lv_iadd hx hb dL_hangs_222 ?_
            refine lv_istore (lv' := [(7, .int (x7 + (0 : Int32))), (6, .int (s1 + s0)), (0, .ref ad), (1, .int x1), (2, .int x2), (3, .int x3), (4, .int x4), (5, .int x5), (8, .int x8), (9, .int x9), (10, .int x10)]) hx hb dL_hangs_223 hl (by decide) rfl (fun ls hl => ?_)
            refine lv_iinc (v := x8 + 1) (lv' := [(8, .int (x8 + 1)), (7, .int (x7 + (0 : Int32))), (6, .int (s1 + s0)), (0, .ref ad), (1, .int x1), (2, .int x2), (3, .int x3), (4, .int x4), (5, .int x5), (9, .int x9), (10, .int x10)]) hx hb dL_hangs_225 hl (k := 8) rfl rfl (by decide) rfl (fun ls hl => ?_)
            refine lv_goto (tgt := 33) hx hb dL_hangs_228 (by decide) ?_
            exact ih.2.1 x1 x2 x3 x4 x5 (s1 + s0) (x7 + (0 : Int32)) (x8 + 1) ws H locs hf hJ hP hD hS ls (lv_sub hl [3, 4, 5, 6, 7, 8, 2, 1, 0] rfl)
          · have hf := pf_f hf c25
            refine lv_iconst (v := 1) hx hb dL_hangs_217 (by decide) ?_
            refine lv_goto (tgt := 222) hx hb dL_hangs_218 (by decide) ?_
            refine lv_iadd hx hb dL_hangs_222 ?_
            refine lv_istore (lv' := [(7, .int (x7 + (1 : Int32))), (6, .int (s1 + s0)), (0, .ref ad), (1, .int x1), (2, .int x2), (3, .int x3), (4, .int x4), (5, .int x5), (8, .int x8), (9, .int x9), (10, .int x10)]) hx hb dL_hangs_223 hl (by decide) rfl (fun ls hl => ?_)
            refine lv_iinc (v := x8 + 1) (lv' := [(8, .int (x8 + 1)), (7, .int (x7 + (1 : Int32))), (6, .int (s1 + s0)), (0, .ref ad), (1, .int x1), (2, .int x2), (3, .int x3), (4, .int x4), (5, .int x5), (9, .int x9), (10, .int x10)]) hx hb dL_hangs_225 hl (k := 8) rfl rfl (by decide) rfl (fun ls hl => ?_)
            refine lv_goto (tgt := 33) hx hb dL_hangs_228 (by decide) ?_
            exact ih.2.1 x1 x2 x3 x4 x5 (s1 + s0) (x7 + (1 : Int32)) (x8 + 1) ws H locs hf hJ hP hD hS ls (lv_sub hl [3, 4, 5, 6, 7, 8, 2, 1, 0] rfl)
      · intro x1 x2 x3 x4 x5 x6 x7 ws H locs hf hJ hP hD hS ls hl
        replace hf : bL_hangs_6 aM aL aC aW aA aT aO aS aG vsh vcs vwo (rL_hangs aM aL aC aW aA aT aO aS aG vsh vcs vwo fu) x1 x2 x3 x4 x5 x6 x7 0 0 0 0 0 0 0 0 0 0 = some res := hf
        unfold bL_hangs_6 at hf
        refine lv_iload hx hb dL_hangs_231 (lv_at hl 4 rfl) ?_
        refine lv_if_eq (tgt := 339) hx hb dL_hangs_233 (by decide) (fun c26 => ?_) (fun c26 => ?_)
        · have hf := pf_t hf c26
          refine lv_iconst (v := 0) hx hb dL_hangs_339 (by decide) ?_
          exact ih.2.2.2.2.2.2.1 x1 x2 x3 x5 (0 : Int32) ws H locs hf hJ hP hD hS ls (lv_sub hl [0, 1, 2, 3, 5] rfl)
        · have hf := pf_f hf c26
          refine lv_aload_n hx hb dL_hangs_236 rfl (lv_at hl 0 rfl) ?_
          refine lv_iload hx hb dL_hangs_237 (lv_at hl 5 rfl) ?_
          refine lv_iconst (v := 2) hx hb dL_hangs_239 (by decide) ?_
          obtain ⟨u27, hu27, hf⟩ := pf_b hf
          refine (haL x5 (2 : Int32) _ _ hu27 hJ).call 3 hE ⟨hx, hb, hml, hown, hts⟩ gL_hangs_L_link rfl (by decide) (by decide +kernel) ⟨Nat.le_of_ble_eq_true rfl, Nat.le_of_ble_eq_true rfl⟩ hP hD hS hA hK rfl hl.1 rfl (lv_room (Nat.le_of_ble_eq_true rfl)) dL_hangs_240 ⟨Nat.le_refl _, Nat.le_refl _⟩ (fun k9 ws H locs h9 hP hD hS => ?_)
          obtain ⟨rfl, hJ⟩ := h9
          refine lv_iload hx hb dL_hangs_243 (lv_at hl 6 rfl) ?_
          refine lv_icmp_ne (tgt := 339) hx hb dL_hangs_245 (by decide) (fun c28 => ?_) (fun c28 => ?_)
          · have hf := pf_f hf c28
            refine lv_iconst (v := 0) hx hb dL_hangs_339 (by decide) ?_
            exact ih.2.2.2.2.2.2.1 x1 x2 x3 x5 (0 : Int32) ws H locs hf hJ hP hD hS ls (lv_sub hl [0, 1, 2, 3, 5] rfl)
          · have hf := pf_t hf c28
            refine lv_aload_n hx hb dL_hangs_248 rfl (lv_at hl 0 rfl) ?_
            refine lv_iload hx hb dL_hangs_249 (lv_at hl 5 rfl) ?_
            refine lv_iconst (v := 3) hx hb dL_hangs_251 (by decide) ?_
            obtain ⟨u29, hu29, hf⟩ := pf_b hf
            refine (haL x5 (3 : Int32) _ _ hu29 hJ).call 3 hE ⟨hx, hb, hml, hown, hts⟩ gL_hangs_L_link rfl (by decide) (by decide +kernel) ⟨Nat.le_of_ble_eq_true rfl, Nat.le_of_ble_eq_true rfl⟩ hP hD hS hA hK rfl hl.1 rfl (lv_room (Nat.le_of_ble_eq_true rfl)) dL_hangs_252 ⟨Nat.le_refl _, Nat.le_refl _⟩ (fun k9 ws H locs h9 hP hD hS => ?_)
            obtain ⟨rfl, hJ⟩ := h9
            refine lv_iload hx hb dL_hangs_255 (lv_at hl 7 rfl) ?_
            refine lv_icmp_ne (tgt := 339) hx hb dL_hangs_257 (by decide) (fun c30 => ?_) (fun c30 => ?_)
            · have hf := pf_f hf c30
              refine lv_iconst (v := 0) hx hb dL_hangs_339 (by decide) ?_
              exact ih.2.2.2.2.2.2.1 x1 x2 x3 x5 (0 : Int32) ws H locs hf hJ hP hD hS ls (lv_sub hl [0, 1, 2, 3, 5] rfl)
            · have hf := pf_t hf c30
              refine lv_aload_n hx hb dL_hangs_260 rfl (lv_at hl 0 rfl) ?_
              refine lv_iload hx hb dL_hangs_261 (lv_at hl 5 rfl) ?_
              refine lv_iconst (v := 0) hx hb dL_hangs_263 (by decide) ?_
              obtain ⟨u31, hu31, hf⟩ := pf_b hf
              refine (haL x5 (0 : Int32) _ _ hu31 hJ).call 3 hE ⟨hx, hb, hml, hown, hts⟩ gL_hangs_L_link rfl (by decide) (by decide +kernel) ⟨Nat.le_of_ble_eq_true rfl, Nat.le_of_ble_eq_true rfl⟩ hP hD hS hA hK rfl hl.1 rfl (lv_room (Nat.le_of_ble_eq_true rfl)) dL_hangs_264 ⟨Nat.le_refl _, Nat.le_refl _⟩ (fun k9 ws H locs h9 hP hD hS => ?_)
              obtain ⟨rfl, hJ⟩ := h9
              refine lv_if_lt (tgt := 339) hx hb dL_hangs_267 (by decide) (fun c32 => ?_) (fun c32 => ?_)
              · have hf := pf_t hf c32
                refine lv_iconst (v := 0) hx hb dL_hangs_339 (by decide) ?_
                exact ih.2.2.2.2.2.2.1 x1 x2 x3 x5 (0 : Int32) ws H locs hf hJ hP hD hS ls (lv_sub hl [0, 1, 2, 3, 5] rfl)
              · have hf := pf_f hf c32
                refine lv_aload_n hx hb dL_hangs_270 rfl (lv_at hl 0 rfl) ?_
                refine lv_iload hx hb dL_hangs_271 (lv_at hl 5 rfl) ?_
                refine lv_iconst (v := 0) hx hb dL_hangs_273 (by decide) ?_
                obtain ⟨u33, hu33, hf⟩ := pf_b hf
                refine (haL x5 (0 : Int32) _ _ hu33 hJ).call 3 hE ⟨hx, hb, hml, hown, hts⟩ gL_hangs_L_link rfl (by decide) (by decide +kernel) ⟨Nat.le_of_ble_eq_true rfl, Nat.le_of_ble_eq_true rfl⟩ hP hD hS hA hK rfl hl.1 rfl (lv_room (Nat.le_of_ble_eq_true rfl)) dL_hangs_274 ⟨Nat.le_refl _, Nat.le_refl _⟩ (fun k9 ws H locs h9 hP hD hS => ?_)
                obtain ⟨rfl, hJ⟩ := h9
                refine lv_bipush (v := 10) hx hb dL_hangs_277 (by decide) ?_
                refine lv_icmp_ge (tgt := 339) hx hb dL_hangs_279 (by decide) (fun c34 => ?_) (fun c34 => ?_)
                · have hf := pf_t hf c34
                  refine lv_iconst (v := 0) hx hb dL_hangs_339 (by decide) ?_
                  exact ih.2.2.2.2.2.2.1 x1 x2 x3 x5 (0 : Int32) ws H locs hf hJ hP hD hS ls (lv_sub hl [0, 1, 2, 3, 5] rfl)
                · have hf := pf_f hf c34
                  refine lv_aload_n hx hb dL_hangs_282 rfl (lv_at hl 0 rfl) ?_
                  refine lv_iload hx hb dL_hangs_283 (lv_at hl 5 rfl) ?_
                  refine lv_iconst (v := 1) hx hb dL_hangs_285 (by decide) ?_
                  obtain ⟨u35, hu35, hf⟩ := pf_b hf
                  refine (haL x5 (1 : Int32) _ _ hu35 hJ).call 3 hE ⟨hx, hb, hml, hown, hts⟩ gL_hangs_L_link rfl (by decide) (by decide +kernel) ⟨Nat.le_of_ble_eq_true rfl, Nat.le_of_ble_eq_true rfl⟩ hP hD hS hA hK rfl hl.1 rfl (lv_room (Nat.le_of_ble_eq_true rfl)) dL_hangs_286 ⟨Nat.le_refl _, Nat.le_refl _⟩ (fun k9 ws H locs h9 hP hD hS => ?_)
                  obtain ⟨rfl, hJ⟩ := h9
                  refine lv_if_lt (tgt := 339) hx hb dL_hangs_289 (by decide) (fun c36 => ?_) (fun c36 => ?_)
                  · have hf := pf_t hf c36
                    refine lv_iconst (v := 0) hx hb dL_hangs_339 (by decide) ?_
                    exact ih.2.2.2.2.2.2.1 x1 x2 x3 x5 (0 : Int32) ws H locs hf hJ hP hD hS ls (lv_sub hl [0, 1, 2, 3, 5] rfl)
                  · have hf := pf_f hf c36
                    refine lv_aload_n hx hb dL_hangs_292 rfl (lv_at hl 0 rfl) ?_
                    refine lv_iload hx hb dL_hangs_293 (lv_at hl 5 rfl) ?_
                    refine lv_iconst (v := 1) hx hb dL_hangs_295 (by decide) ?_
                    obtain ⟨u37, hu37, hf⟩ := pf_b hf
                    refine (haL x5 (1 : Int32) _ _ hu37 hJ).call 3 hE ⟨hx, hb, hml, hown, hts⟩ gL_hangs_L_link rfl (by decide) (by decide +kernel) ⟨Nat.le_of_ble_eq_true rfl, Nat.le_of_ble_eq_true rfl⟩ hP hD hS hA hK rfl hl.1 rfl (lv_room (Nat.le_of_ble_eq_true rfl)) dL_hangs_296 ⟨Nat.le_refl _, Nat.le_refl _⟩ (fun k9 ws H locs h9 hP hD hS => ?_)
                    obtain ⟨rfl, hJ⟩ := h9
                    refine lv_bipush (v := 10) hx hb dL_hangs_299 (by decide) ?_
                    refine lv_icmp_ge (tgt := 339) hx hb dL_hangs_301 (by decide) (fun c38 => ?_) (fun c38 => ?_)
                    · have hf := pf_t hf c38
                      refine lv_iconst (v := 0) hx hb dL_hangs_339 (by decide) ?_
                      exact ih.2.2.2.2.2.2.1 x1 x2 x3 x5 (0 : Int32) ws H locs hf hJ hP hD hS ls (lv_sub hl [0, 1, 2, 3, 5] rfl)
                    · have hf := pf_f hf c38
                      refine lv_aload_n hx hb dL_hangs_304 rfl (lv_at hl 0 rfl) ?_
                      refine lv_iload hx hb dL_hangs_305 (lv_at hl 5 rfl) ?_
                      refine lv_iconst (v := 4) hx hb dL_hangs_307 (by decide) ?_
                      obtain ⟨u39, hu39, hf⟩ := pf_b hf
                      refine (haL x5 (4 : Int32) _ _ hu39 hJ).call 3 hE ⟨hx, hb, hml, hown, hts⟩ gL_hangs_L_link rfl (by decide) (by decide +kernel) ⟨Nat.le_of_ble_eq_true rfl, Nat.le_of_ble_eq_true rfl⟩ hP hD hS hA hK rfl hl.1 rfl (lv_room (Nat.le_of_ble_eq_true rfl)) dL_hangs_308 ⟨Nat.le_refl _, Nat.le_refl _⟩ (fun k9 ws H locs h9 hP hD hS => ?_)
                      obtain ⟨rfl, hJ⟩ := h9
                      refine lv_if_lt (tgt := 339) hx hb dL_hangs_311 (by decide) (fun c40 => ?_) (fun c40 => ?_)
                      · have hf := pf_t hf c40
                        refine lv_iconst (v := 0) hx hb dL_hangs_339 (by decide) ?_
                        exact ih.2.2.2.2.2.2.1 x1 x2 x3 x5 (0 : Int32) ws H locs hf hJ hP hD hS ls (lv_sub hl [0, 1, 2, 3, 5] rfl)
                      · have hf := pf_f hf c40
                        refine lv_aload_n hx hb dL_hangs_314 rfl (lv_at hl 0 rfl) ?_
                        refine lv_iload hx hb dL_hangs_315 (lv_at hl 5 rfl) ?_
                        refine lv_iconst (v := 5) hx hb dL_hangs_317 (by decide) ?_
                        obtain ⟨u41, hu41, hf⟩ := pf_b hf
                        refine (haL x5 (5 : Int32) _ _ hu41 hJ).call 3 hE ⟨hx, hb, hml, hown, hts⟩ gL_hangs_L_link rfl (by decide) (by decide +kernel) ⟨Nat.le_of_ble_eq_true rfl, Nat.le_of_ble_eq_true rfl⟩ hP hD hS hA hK rfl hl.1 rfl (lv_room (Nat.le_of_ble_eq_true rfl)) dL_hangs_318 ⟨Nat.le_refl _, Nat.le_refl _⟩ (fun k9 ws H locs h9 hP hD hS => ?_)
                        obtain ⟨rfl, hJ⟩ := h9
                        refine lv_if_lt (tgt := 339) hx hb dL_hangs_321 (by decide) (fun c42 => ?_) (fun c42 => ?_)
                        · have hf := pf_t hf c42
                          refine lv_iconst (v := 0) hx hb dL_hangs_339 (by decide) ?_
                          exact ih.2.2.2.2.2.2.1 x1 x2 x3 x5 (0 : Int32) ws H locs hf hJ hP hD hS ls (lv_sub hl [0, 1, 2, 3, 5] rfl)
                        · have hf := pf_f hf c42
                          refine lv_aload_n hx hb dL_hangs_324 rfl (lv_at hl 0 rfl) ?_
                          refine lv_iload hx hb dL_hangs_325 (lv_at hl 5 rfl) ?_
                          refine lv_bipush (v := 6) hx hb dL_hangs_327 (by decide) ?_
                          obtain ⟨u43, hu43, hf⟩ := pf_b hf
                          refine (haL x5 (6 : Int32) _ _ hu43 hJ).call 3 hE ⟨hx, hb, hml, hown, hts⟩ gL_hangs_L_link rfl (by decide) (by decide +kernel) ⟨Nat.le_of_ble_eq_true rfl, Nat.le_of_ble_eq_true rfl⟩ hP hD hS hA hK rfl hl.1 rfl (lv_room (Nat.le_of_ble_eq_true rfl)) dL_hangs_329 ⟨Nat.le_refl _, Nat.le_refl _⟩ (fun k9 ws H locs h9 hP hD hS => ?_)
                          obtain ⟨rfl, hJ⟩ := h9
                          refine lv_if_lt (tgt := 339) hx hb dL_hangs_332 (by decide) (fun c44 => ?_) (fun c44 => ?_)
                          · have hf := pf_t hf c44
                            refine lv_iconst (v := 0) hx hb dL_hangs_339 (by decide) ?_
                            exact ih.2.2.2.2.2.2.1 x1 x2 x3 x5 (0 : Int32) ws H locs hf hJ hP hD hS ls (lv_sub hl [0, 1, 2, 3, 5] rfl)
                          · have hf := pf_f hf c44
                            refine lv_iconst (v := 1) hx hb dL_hangs_335 (by decide) ?_
                            refine lv_goto (tgt := 340) hx hb dL_hangs_336 (by decide) ?_
                            exact ih.2.2.2.2.2.2.1 x1 x2 x3 x5 (1 : Int32) ws H locs hf hJ hP hD hS ls (lv_sub hl [0, 1, 2, 3, 5] rfl)
      · intro x1 x2 x3 x5 s0 ws H locs hf hJ hP hD hS ls hl
        replace hf : bL_hangs_7 aM aL aC aW aA aT aO aS aG vsh vcs vwo (rL_hangs aM aL aC aW aA aT aO aS aG vsh vcs vwo fu) x1 x2 x3 0 x5 0 0 0 0 0 0 0 0 s0 0 0 0 = some res := hf
        unfold bL_hangs_7 at hf
        refine lv_istore (lv' := [(4, .int s0), (0, .ref ad), (1, .int x1), (2, .int x2), (3, .int x3), (5, .int x5)]) hx hb dL_hangs_340 hl (by decide) rfl (fun ls hl => ?_)
        refine lv_iload_n hx hb dL_hangs_342 rfl (lv_at hl 3 rfl) ?_
        refine lv_aload_n hx hb dL_hangs_343 rfl (lv_at hl 1 rfl) ?_
        refine lv_iload hx hb dL_hangs_344 (lv_at hl 5 rfl) ?_
        refine lv_iconst (v := 4) hx hb dL_hangs_346 (by decide) ?_
        obtain ⟨u45, hu45, hf⟩ := pf_b hf
        refine (haL x5 (4 : Int32) _ _ hu45 hJ).call 3 hE ⟨hx, hb, hml, hown, hts⟩ gL_hangs_L_link rfl (by decide) (by decide +kernel) ⟨Nat.le_of_ble_eq_true rfl, Nat.le_of_ble_eq_true rfl⟩ hP hD hS hA hK rfl hl.1 rfl (lv_room (Nat.le_of_ble_eq_true rfl)) dL_hangs_347 ⟨Nat.le_refl _, Nat.le_refl _⟩ (fun k9 ws H locs h9 hP hD hS => ?_)
        obtain ⟨rfl, hJ⟩ := h9
        refine lv_iadd hx hb dL_hangs_350 ?_
        refine lv_istore_n (lv' := [(2, .int (x2 + u45)), (4, .int s0), (0, .ref ad), (1, .int x1), (3, .int x3), (5, .int x5)]) hx hb dL_hangs_351 rfl hl (by decide) rfl (fun ls hl => ?_)
        refine lv_iload_n hx hb dL_hangs_352 rfl (lv_at hl 3 rfl) ?_
        refine lv_aload_n hx hb dL_hangs_353 rfl (lv_at hl 2 rfl) ?_
        refine lv_iload hx hb dL_hangs_354 (lv_at hl 5 rfl) ?_
        refine lv_iconst (v := 5) hx hb dL_hangs_356 (by decide) ?_
        obtain ⟨u46, hu46, hf⟩ := pf_b hf
        refine (haL x5 (5 : Int32) _ _ hu46 hJ).call 3 hE ⟨hx, hb, hml, hown, hts⟩ gL_hangs_L_link rfl (by decide) (by decide +kernel) ⟨Nat.le_of_ble_eq_true rfl, Nat.le_of_ble_eq_true rfl⟩ hP hD hS hA hK rfl hl.1 rfl (lv_room (Nat.le_of_ble_eq_true rfl)) dL_hangs_357 ⟨Nat.le_refl _, Nat.le_refl _⟩ (fun k9 ws H locs h9 hP hD hS => ?_)
        obtain ⟨rfl, hJ⟩ := h9
        refine lv_iadd hx hb dL_hangs_360 ?_
        refine lv_istore_n (lv' := [(1, .int (x1 + u46)), (2, .int (x2 + u45)), (4, .int s0), (0, .ref ad), (3, .int x3), (5, .int x5)]) hx hb dL_hangs_361 rfl hl (by decide) rfl (fun ls hl => ?_)
        refine lv_iload_n hx hb dL_hangs_362 rfl (lv_at hl 4 rfl) ?_
        refine lv_aload_n hx hb dL_hangs_363 rfl (lv_at hl 3 rfl) ?_
        refine lv_iload hx hb dL_hangs_364 (lv_at hl 5 rfl) ?_
        refine lv_bipush (v := 6) hx hb dL_hangs_366 (by decide) ?_
        obtain ⟨u47, hu47, hf⟩ := pf_b hf
        refine (haL x5 (6 : Int32) _ _ hu47 hJ).call 3 hE ⟨hx, hb, hml, hown, hts⟩ gL_hangs_L_link rfl (by decide) (by decide +kernel) ⟨Nat.le_of_ble_eq_true rfl, Nat.le_of_ble_eq_true rfl⟩ hP hD hS hA hK rfl hl.1 rfl (lv_room (Nat.le_of_ble_eq_true rfl)) dL_hangs_368 ⟨Nat.le_refl _, Nat.le_refl _⟩ (fun k9 ws H locs h9 hP hD hS => ?_)
        obtain ⟨rfl, hJ⟩ := h9
        refine lv_iadd hx hb dL_hangs_371 ?_
        refine lv_istore_n (lv' := [(3, .int (x3 + u47)), (1, .int (x1 + u46)), (2, .int (x2 + u45)), (4, .int s0), (0, .ref ad), (5, .int x5)]) hx hb dL_hangs_372 rfl hl (by decide) rfl (fun ls hl => ?_)
        refine lv_iinc (v := x5 + 1) (lv' := [(5, .int (x5 + 1)), (3, .int (x3 + u47)), (1, .int (x1 + u46)), (2, .int (x2 + u45)), (4, .int s0), (0, .ref ad)]) hx hb dL_hangs_373 hl (k := 5) rfl rfl (by decide) rfl (fun ls hl => ?_)
        refine lv_goto (tgt := 12) hx hb dL_hangs_376 (by decide) ?_
        exact ih.1 (x1 + u46) (x2 + u45) (x3 + u47) s0 (x5 + 1) ws H locs hf hJ hP hD hS ls (lv_sub hl [5, 2, 3, 1, 4, 0] rfl)
      · intro x1 x2 x3 x4 ws H locs hf hJ hP hD hS ls hl
        replace hf : bL_hangs_8 aM aL aC aW aA aT aO aS aG vsh vcs vwo (rL_hangs aM aL aC aW aA aT aO aS aG vsh vcs vwo fu) x1 x2 x3 x4 0 0 0 0 0 0 0 0 0 0 0 0 0 = some res := hf
        unfold bL_hangs_8 at hf
        refine lv_aload_n hx hb dL_hangs_379 rfl (lv_at hl 0 rfl) ?_
        refine lv_iconst (v := 0) hx hb dL_hangs_380 (by decide) ?_
        obtain ⟨u48, hu48, hf⟩ := pf_b hf
        refine (haC (0 : Int32) _ _ hu48 hJ).call 2 hE ⟨hx, hb, hml, hown, hts⟩ gL_hangs_L_count rfl (by decide) (by decide +kernel) ⟨Nat.le_of_ble_eq_true rfl, Nat.le_of_ble_eq_true rfl⟩ hP hD hS hA hK rfl hl.1 rfl (lv_room (Nat.le_of_ble_eq_true rfl)) dL_hangs_381 ⟨Nat.le_refl _, Nat.le_refl _⟩ (fun k9 ws H locs h9 hP hD hS => ?_)
        obtain ⟨rfl, hJ⟩ := h9
        refine lv_istore (lv' := [(5, .int u48), (0, .ref ad), (1, .int x1), (2, .int x2), (3, .int x3), (4, .int x4)]) hx hb dL_hangs_384 hl (by decide) rfl (fun ls hl => ?_)
        refine lv_bipush (v := 10) hx hb dL_hangs_386 (by decide) ?_
        refine lv_istore (lv' := [(6, .int 10), (5, .int u48), (0, .ref ad), (1, .int x1), (2, .int x2), (3, .int x3), (4, .int x4)]) hx hb dL_hangs_388 hl (by decide) rfl (fun ls hl => ?_)
        refine lv_iconst (v := 0) hx hb dL_hangs_390 (by decide) ?_
        refine lv_istore (lv' := [(7, .int 0), (6, .int 10), (5, .int u48), (0, .ref ad), (1, .int x1), (2, .int x2), (3, .int x3), (4, .int x4)]) hx hb dL_hangs_391 hl (by decide) rfl (fun ls hl => ?_)
        exact ih.2.2.2.2.2.2.2.2.1 x1 x2 x3 x4 u48 (10 : Int32) (0 : Int32) ws H locs hf hJ hP hD hS ls (lv_sub hl [3, 4, 5, 6, 7, 2, 1, 0] rfl)
      · intro x1 x2 x3 x4 x5 x6 x7 ws H locs hf hJ hP hD hS ls hl
        replace hf : bL_hangs_9 aM aL aC aW aA aT aO aS aG vsh vcs vwo (rL_hangs aM aL aC aW aA aT aO aS aG vsh vcs vwo fu) x1 x2 x3 x4 x5 x6 x7 0 0 0 0 0 0 0 0 0 0 = some res := hf
        unfold bL_hangs_9 at hf
        refine lv_iload hx hb dL_hangs_393 (lv_at hl 7 rfl) ?_
        refine lv_iload hx hb dL_hangs_395 (lv_at hl 5 rfl) ?_
        refine lv_icmp_ge (tgt := 500) hx hb dL_hangs_397 (by decide) (fun c49 => ?_) (fun c49 => ?_)
        · have hf := pf_t hf c49
          exact ih.2.2.2.2.2.2.2.2.2.2.1 x1 x2 x3 x4 x5 ws H locs hf hJ hP hD hS ls (lv_sub hl [0, 1, 2, 3, 4, 5] rfl)
        · have hf := pf_f hf c49
          refine lv_iload hx hb dL_hangs_400 (lv_at hl 7 rfl) ?_
          refine lv_bipush (v := 8) hx hb dL_hangs_402 (by decide) ?_
          refine lv_icmp_ge (tgt := 500) hx hb dL_hangs_404 (by decide) (fun c50 => ?_) (fun c50 => ?_)
          · have hf := pf_t hf c50
            exact ih.2.2.2.2.2.2.2.2.2.2.1 x1 x2 x3 x4 x5 ws H locs hf hJ hP hD hS ls (lv_sub hl [0, 1, 2, 3, 4, 5] rfl)
          · have hf := pf_f hf c50
            refine lv_iload hx hb dL_hangs_407 (lv_at hl 4 rfl) ?_
            refine lv_if_eq (tgt := 500) hx hb dL_hangs_409 (by decide) (fun c51 => ?_) (fun c51 => ?_)
            · have hf := pf_t hf c51
              exact ih.2.2.2.2.2.2.2.2.2.2.1 x1 x2 x3 x4 x5 ws H locs hf hJ hP hD hS ls (lv_sub hl [0, 1, 2, 3, 4, 5] rfl)
            · have hf := pf_f hf c51
              refine lv_aload_n hx hb dL_hangs_412 rfl (lv_at hl 0 rfl) ?_
              refine lv_iload hx hb dL_hangs_413 (lv_at hl 7 rfl) ?_
              refine lv_iconst (v := 0) hx hb dL_hangs_415 (by decide) ?_
              obtain ⟨u52, hu52, hf⟩ := pf_b hf
              refine (haW x7 (0 : Int32) _ _ hu52 hJ).call 3 hE ⟨hx, hb, hml, hown, hts⟩ gL_hangs_L_waits rfl (by decide) (by decide +kernel) ⟨Nat.le_of_ble_eq_true rfl, Nat.le_of_ble_eq_true rfl⟩ hP hD hS hA hK rfl hl.1 rfl (lv_room (Nat.le_of_ble_eq_true rfl)) dL_hangs_416 ⟨Nat.le_refl _, Nat.le_refl _⟩ (fun k9 ws H locs h9 hP hD hS => ?_)
              obtain ⟨rfl, hJ⟩ := h9
              refine lv_if_le (tgt := 482) hx hb dL_hangs_419 (by decide) (fun c53 => ?_) (fun c53 => ?_)
              · have hf := pf_t hf c53
                refine lv_iconst (v := 0) hx hb dL_hangs_482 (by decide) ?_
                exact ih.2.2.2.2.2.2.2.2.2.1 x1 x2 x3 x5 x7 (0 : Int32) ws H locs hf hJ hP hD hS ls (lv_sub hl [0, 1, 2, 3, 5, 7] rfl)
              · have hf := pf_f hf c53
                refine lv_aload_n hx hb dL_hangs_422 rfl (lv_at hl 0 rfl) ?_
                refine lv_iload hx hb dL_hangs_423 (lv_at hl 7 rfl) ?_
                refine lv_iconst (v := 0) hx hb dL_hangs_425 (by decide) ?_
                obtain ⟨u54, hu54, hf⟩ := pf_b hf
                refine (haW x7 (0 : Int32) _ _ hu54 hJ).call 3 hE ⟨hx, hb, hml, hown, hts⟩ gL_hangs_L_waits rfl (by decide) (by decide +kernel) ⟨Nat.le_of_ble_eq_true rfl, Nat.le_of_ble_eq_true rfl⟩ hP hD hS hA hK rfl hl.1 rfl (lv_room (Nat.le_of_ble_eq_true rfl)) dL_hangs_426 ⟨Nat.le_refl _, Nat.le_refl _⟩ (fun k9 ws H locs h9 hP hD hS => ?_)
                obtain ⟨rfl, hJ⟩ := h9
                refine lv_bipush (v := 13) hx hb dL_hangs_429 (by decide) ?_
                refine lv_icmp_ge (tgt := 482) hx hb dL_hangs_431 (by decide) (fun c55 => ?_) (fun c55 => ?_)
                · have hf := pf_t hf c55
                  refine lv_iconst (v := 0) hx hb dL_hangs_482 (by decide) ?_
                  exact ih.2.2.2.2.2.2.2.2.2.1 x1 x2 x3 x5 x7 (0 : Int32) ws H locs hf hJ hP hD hS ls (lv_sub hl [0, 1, 2, 3, 5, 7] rfl)
                · have hf := pf_f hf c55
                  refine lv_aload_n hx hb dL_hangs_434 rfl (lv_at hl 0 rfl) ?_
                  refine lv_iload hx hb dL_hangs_435 (lv_at hl 7 rfl) ?_
                  refine lv_iconst (v := 1) hx hb dL_hangs_437 (by decide) ?_
                  obtain ⟨u56, hu56, hf⟩ := pf_b hf
                  refine (haW x7 (1 : Int32) _ _ hu56 hJ).call 3 hE ⟨hx, hb, hml, hown, hts⟩ gL_hangs_L_waits rfl (by decide) (by decide +kernel) ⟨Nat.le_of_ble_eq_true rfl, Nat.le_of_ble_eq_true rfl⟩ hP hD hS hA hK rfl hl.1 rfl (lv_room (Nat.le_of_ble_eq_true rfl)) dL_hangs_438 ⟨Nat.le_refl _, Nat.le_refl _⟩ (fun k9 ws H locs h9 hP hD hS => ?_)
                  obtain ⟨rfl, hJ⟩ := h9
                  refine lv_if_le (tgt := 482) hx hb dL_hangs_441 (by decide) (fun c57 => ?_) (fun c57 => ?_)
                  · have hf := pf_t hf c57
                    refine lv_iconst (v := 0) hx hb dL_hangs_482 (by decide) ?_
                    exact ih.2.2.2.2.2.2.2.2.2.1 x1 x2 x3 x5 x7 (0 : Int32) ws H locs hf hJ hP hD hS ls (lv_sub hl [0, 1, 2, 3, 5, 7] rfl)
                  · have hf := pf_f hf c57
                    refine lv_aload_n hx hb dL_hangs_444 rfl (lv_at hl 0 rfl) ?_
                    refine lv_iload hx hb dL_hangs_445 (lv_at hl 7 rfl) ?_
                    refine lv_iconst (v := 1) hx hb dL_hangs_447 (by decide) ?_
                    obtain ⟨u58, hu58, hf⟩ := pf_b hf
                    refine (haW x7 (1 : Int32) _ _ hu58 hJ).call 3 hE ⟨hx, hb, hml, hown, hts⟩ gL_hangs_L_waits rfl (by decide) (by decide +kernel) ⟨Nat.le_of_ble_eq_true rfl, Nat.le_of_ble_eq_true rfl⟩ hP hD hS hA hK rfl hl.1 rfl (lv_room (Nat.le_of_ble_eq_true rfl)) dL_hangs_448 ⟨Nat.le_refl _, Nat.le_refl _⟩ (fun k9 ws H locs h9 hP hD hS => ?_)
                    obtain ⟨rfl, hJ⟩ := h9
                    refine lv_iload hx hb dL_hangs_451 (lv_at hl 6 rfl) ?_
                    refine lv_icmp_gt (tgt := 482) hx hb dL_hangs_453 (by decide) (fun c59 => ?_) (fun c59 => ?_)
                    · have hf := pf_t hf c59
                      refine lv_iconst (v := 0) hx hb dL_hangs_482 (by decide) ?_
                      exact ih.2.2.2.2.2.2.2.2.2.1 x1 x2 x3 x5 x7 (0 : Int32) ws H locs hf hJ hP hD hS ls (lv_sub hl [0, 1, 2, 3, 5, 7] rfl)
                    · have hf := pf_f hf c59
                      refine lv_aload_n hx hb dL_hangs_456 rfl (lv_at hl 0 rfl) ?_
                      refine lv_iload hx hb dL_hangs_457 (lv_at hl 7 rfl) ?_
                      refine lv_iconst (v := 2) hx hb dL_hangs_459 (by decide) ?_
                      obtain ⟨u60, hu60, hf⟩ := pf_b hf
                      refine (haW x7 (2 : Int32) _ _ hu60 hJ).call 3 hE ⟨hx, hb, hml, hown, hts⟩ gL_hangs_L_waits rfl (by decide) (by decide +kernel) ⟨Nat.le_of_ble_eq_true rfl, Nat.le_of_ble_eq_true rfl⟩ hP hD hS hA hK rfl hl.1 rfl (lv_room (Nat.le_of_ble_eq_true rfl)) dL_hangs_460 ⟨Nat.le_refl _, Nat.le_refl _⟩ (fun k9 ws H locs h9 hP hD hS => ?_)
                      obtain ⟨rfl, hJ⟩ := h9
                      refine lv_if_lt (tgt := 482) hx hb dL_hangs_463 (by decide) (fun c61 => ?_) (fun c61 => ?_)
                      · have hf := pf_t hf c61
                        refine lv_iconst (v := 0) hx hb dL_hangs_482 (by decide) ?_
                        exact ih.2.2.2.2.2.2.2.2.2.1 x1 x2 x3 x5 x7 (0 : Int32) ws H locs hf hJ hP hD hS ls (lv_sub hl [0, 1, 2, 3, 5, 7] rfl)
                      · have hf := pf_f hf c61
                        refine lv_aload_n hx hb dL_hangs_466 rfl (lv_at hl 0 rfl) ?_
                        refine lv_iload hx hb dL_hangs_467 (lv_at hl 7 rfl) ?_
                        refine lv_iconst (v := 2) hx hb dL_hangs_469 (by decide) ?_
                        obtain ⟨u62, hu62, hf⟩ := pf_b hf
                        refine (haW x7 (2 : Int32) _ _ hu62 hJ).call 3 hE ⟨hx, hb, hml, hown, hts⟩ gL_hangs_L_waits rfl (by decide) (by decide +kernel) ⟨Nat.le_of_ble_eq_true rfl, Nat.le_of_ble_eq_true rfl⟩ hP hD hS hA hK rfl hl.1 rfl (lv_room (Nat.le_of_ble_eq_true rfl)) dL_hangs_470 ⟨Nat.le_refl _, Nat.le_refl _⟩ (fun k9 ws H locs h9 hP hD hS => ?_)
                        obtain ⟨rfl, hJ⟩ := h9
                        refine lv_bipush (v := 30) hx hb dL_hangs_473 (by decide) ?_
                        refine lv_icmp_ge (tgt := 482) hx hb dL_hangs_475 (by decide) (fun c63 => ?_) (fun c63 => ?_)
                        · have hf := pf_t hf c63
                          refine lv_iconst (v := 0) hx hb dL_hangs_482 (by decide) ?_
                          exact ih.2.2.2.2.2.2.2.2.2.1 x1 x2 x3 x5 x7 (0 : Int32) ws H locs hf hJ hP hD hS ls (lv_sub hl [0, 1, 2, 3, 5, 7] rfl)
                        · have hf := pf_f hf c63
                          refine lv_iconst (v := 1) hx hb dL_hangs_478 (by decide) ?_
                          refine lv_goto (tgt := 483) hx hb dL_hangs_479 (by decide) ?_
                          exact ih.2.2.2.2.2.2.2.2.2.1 x1 x2 x3 x5 x7 (1 : Int32) ws H locs hf hJ hP hD hS ls (lv_sub hl [0, 1, 2, 3, 5, 7] rfl)
      · intro x1 x2 x3 x5 x7 s0 ws H locs hf hJ hP hD hS ls hl
        replace hf : bL_hangs_10 aM aL aC aW aA aT aO aS aG vsh vcs vwo (rL_hangs aM aL aC aW aA aT aO aS aG vsh vcs vwo fu) x1 x2 x3 0 x5 0 x7 0 0 0 0 0 0 s0 0 0 0 = some res := hf
        unfold bL_hangs_10 at hf
        refine lv_istore (lv' := [(4, .int s0), (0, .ref ad), (1, .int x1), (2, .int x2), (3, .int x3), (5, .int x5), (7, .int x7)]) hx hb dL_hangs_483 hl (by decide) rfl (fun ls hl => ?_)
        refine lv_aload_n hx hb dL_hangs_485 rfl (lv_at hl 1 rfl) ?_
        refine lv_iload hx hb dL_hangs_486 (lv_at hl 6 rfl) ?_
        refine lv_iconst (v := 1) hx hb dL_hangs_488 (by decide) ?_
        obtain ⟨u64, hu64, hf⟩ := pf_b hf
        refine (haW x7 (1 : Int32) _ _ hu64 hJ).call 3 hE ⟨hx, hb, hml, hown, hts⟩ gL_hangs_L_waits rfl (by decide) (by decide +kernel) ⟨Nat.le_of_ble_eq_true rfl, Nat.le_of_ble_eq_true rfl⟩ hP hD hS hA hK rfl hl.1 rfl (lv_room (Nat.le_of_ble_eq_true rfl)) dL_hangs_489 ⟨Nat.le_refl _, Nat.le_refl _⟩ (fun k9 ws H locs h9 hP hD hS => ?_)
        obtain ⟨rfl, hJ⟩ := h9
        refine lv_istore (lv' := [(6, .int u64), (4, .int s0), (0, .ref ad), (1, .int x1), (2, .int x2), (3, .int x3), (5, .int x5), (7, .int x7)]) hx hb dL_hangs_492 hl (by decide) rfl (fun ls hl => ?_)
        refine lv_iinc (v := x7 + 1) (lv' := [(7, .int (x7 + 1)), (6, .int u64), (4, .int s0), (0, .ref ad), (1, .int x1), (2, .int x2), (3, .int x3), (5, .int x5)]) hx hb dL_hangs_494 hl (k := 7) rfl rfl (by decide) rfl (fun ls hl => ?_)
        refine lv_goto (tgt := 393) hx hb dL_hangs_497 (by decide) ?_
        exact ih.2.2.2.2.2.2.2.2.1 x1 x2 x3 s0 x5 u64 (x7 + 1) ws H locs hf hJ hP hD hS ls (lv_sub hl [3, 4, 5, 6, 2, 7, 1, 0] rfl)
      · intro x1 x2 x3 x4 x5 ws H locs hf hJ hP hD hS ls hl
        replace hf : bL_hangs_11 aM aL aC aW aA aT aO aS aG vsh vcs vwo (rL_hangs aM aL aC aW aA aT aO aS aG vsh vcs vwo fu) x1 x2 x3 x4 x5 0 0 0 0 0 0 0 0 0 0 0 0 = some res := hf
        unfold bL_hangs_11 at hf
        refine lv_aload_n hx hb dL_hangs_500 rfl (lv_at hl 0 rfl) ?_
        refine lv_iconst (v := 2) hx hb dL_hangs_501 (by decide) ?_
        obtain ⟨u65, hu65, hf⟩ := pf_b hf
        refine (haC (2 : Int32) _ _ hu65 hJ).call 2 hE ⟨hx, hb, hml, hown, hts⟩ gL_hangs_L_count rfl (by decide) (by decide +kernel) ⟨Nat.le_of_ble_eq_true rfl, Nat.le_of_ble_eq_true rfl⟩ hP hD hS hA hK rfl hl.1 rfl (lv_room (Nat.le_of_ble_eq_true rfl)) dL_hangs_502 ⟨Nat.le_refl _, Nat.le_refl _⟩ (fun k9 ws H locs h9 hP hD hS => ?_)
        obtain ⟨rfl, hJ⟩ := h9
        refine lv_istore (lv' := [(7, .int u65), (0, .ref ad), (1, .int x1), (2, .int x2), (3, .int x3), (4, .int x4), (5, .int x5)]) hx hb dL_hangs_505 hl (by decide) rfl (fun ls hl => ?_)
        refine lv_iconst (v := 0) hx hb dL_hangs_507 (by decide) ?_
        refine lv_istore (lv' := [(8, .int 0), (7, .int u65), (0, .ref ad), (1, .int x1), (2, .int x2), (3, .int x3), (4, .int x4), (5, .int x5)]) hx hb dL_hangs_508 hl (by decide) rfl (fun ls hl => ?_)
        exact ih.2.2.2.2.2.2.2.2.2.2.2.1 x1 x2 x3 x4 x5 u65 (0 : Int32) ws H locs hf hJ hP hD hS ls (lv_sub hl [2, 3, 4, 5, 6, 7, 1, 0] rfl)
      · intro x1 x2 x3 x4 x5 x7 x8 ws H locs hf hJ hP hD hS ls hl
        replace hf : bL_hangs_12 aM aL aC aW aA aT aO aS aG vsh vcs vwo (rL_hangs aM aL aC aW aA aT aO aS aG vsh vcs vwo fu) x1 x2 x3 x4 x5 0 x7 x8 0 0 0 0 0 0 0 0 0 = some res := hf
        unfold bL_hangs_12 at hf
        refine lv_iload hx hb dL_hangs_510 (lv_at hl 7 rfl) ?_
        refine lv_bipush (v := 6) hx hb dL_hangs_512 (by decide) ?_
        refine lv_icmp_ge (tgt := 790) hx hb dL_hangs_514 (by decide) (fun c66 => ?_) (fun c66 => ?_)
        · have hf := pf_t hf c66
          exact ih.2.2.2.2.2.2.2.2.2.2.2.2.2.2.2.1 x1 x2 x3 x4 x5 x7 ws H locs hf hJ hP hD hS ls (lv_sub hl [0, 1, 2, 3, 4, 5, 6] rfl)
        · have hf := pf_f hf c66
          refine lv_iload hx hb dL_hangs_517 (lv_at hl 4 rfl) ?_
          refine lv_if_eq (tgt := 790) hx hb dL_hangs_519 (by decide) (fun c67 => ?_) (fun c67 => ?_)
          · have hf := pf_t hf c67
            exact ih.2.2.2.2.2.2.2.2.2.2.2.2.2.2.2.1 x1 x2 x3 x4 x5 x7 ws H locs hf hJ hP hD hS ls (lv_sub hl [0, 1, 2, 3, 4, 5, 6] rfl)
          · have hf := pf_f hf c67
            refine lv_aload_n hx hb dL_hangs_522 rfl (lv_at hl 0 rfl) ?_
            refine lv_iload hx hb dL_hangs_523 (lv_at hl 7 rfl) ?_
            refine lv_iconst (v := 0) hx hb dL_hangs_525 (by decide) ?_
            obtain ⟨u68, hu68, hf⟩ := pf_b hf
            refine (haA x8 (0 : Int32) _ _ hu68 hJ).call 3 hE ⟨hx, hb, hml, hown, hts⟩ gL_hangs_L_arrival rfl (by decide) (by decide +kernel) ⟨Nat.le_of_ble_eq_true rfl, Nat.le_of_ble_eq_true rfl⟩ hP hD hS hA hK rfl hl.1 rfl (lv_room (Nat.le_of_ble_eq_true rfl)) dL_hangs_526 ⟨Nat.le_refl _, Nat.le_refl _⟩ (fun k9 ws H locs h9 hP hD hS => ?_)
            obtain ⟨rfl, hJ⟩ := h9
            refine lv_istore (lv' := [(9, .int u68), (0, .ref ad), (1, .int x1), (2, .int x2), (3, .int x3), (4, .int x4), (5, .int x5), (7, .int x7), (8, .int x8)]) hx hb dL_hangs_529 hl (by decide) rfl (fun ls hl => ?_)
            refine lv_iconst (v := 0) hx hb dL_hangs_531 (by decide) ?_
            refine lv_istore (lv' := [(10, .int 0), (9, .int u68), (0, .ref ad), (1, .int x1), (2, .int x2), (3, .int x3), (4, .int x4), (5, .int x5), (7, .int x7), (8, .int x8)]) hx hb dL_hangs_532 hl (by decide) rfl (fun ls hl => ?_)
            refine lv_iconst (v := 0) hx hb dL_hangs_534 (by decide) ?_
            refine lv_istore (lv' := [(11, .int 0), (10, .int 0), (9, .int u68), (0, .ref ad), (1, .int x1), (2, .int x2), (3, .int x3), (4, .int x4), (5, .int x5), (7, .int x7), (8, .int x8)]) hx hb dL_hangs_535 hl (by decide) rfl (fun ls hl => ?_)
            refine lv_iconst (v := 0) hx hb dL_hangs_537 (by decide) ?_
            refine lv_istore (lv' := [(12, .int 0), (11, .int 0), (10, .int 0), (9, .int u68), (0, .ref ad), (1, .int x1), (2, .int x2), (3, .int x3), (4, .int x4), (5, .int x5), (7, .int x7), (8, .int x8)]) hx hb dL_hangs_538 hl (by decide) rfl (fun ls hl => ?_)
            exact ih.2.2.2.2.2.2.2.2.2.2.2.2.1 x1 x2 x3 x5 x7 x8 u68 (0 : Int32) (0 : Int32) (0 : Int32) ws H locs hf hJ hP hD hS ls (lv_sub hl [4, 5, 6, 7, 9, 10, 11, 3, 2, 1, 0] rfl)
      · intro x1 x2 x3 x5 x7 x8 x9 x10 x11 x12 ws H locs hf hJ hP hD hS ls hl
        replace hf : bL_hangs_13 aM aL aC aW aA aT aO aS aG vsh vcs vwo (rL_hangs aM aL aC aW aA aT aO aS aG vsh vcs vwo fu) x1 x2 x3 0 x5 0 x7 x8 x9 x10 x11 x12 0 0 0 0 0 = some res := hf
        unfold bL_hangs_13 at hf
        refine lv_iload hx hb dL_hangs_540 (lv_at hl 10 rfl) ?_
        refine lv_bipush (v := 40) hx hb dL_hangs_542 (by decide) ?_
        refine lv_icmp_ge (tgt := 615) hx hb dL_hangs_544 (by decide) (fun c69 => ?_) (fun c69 => ?_)
        · have hf := pf_t hf c69
          exact ih.2.2.2.2.2.2.2.2.2.2.2.2.2.2.1 x1 x2 x3 x5 x7 x8 x9 x10 x11 x12 ws H locs hf hJ hP hD hS ls (lv_sub hl [0, 1, 2, 3, 4, 5, 6, 7, 8, 9, 10] rfl)
        · have hf := pf_f hf c69
          refine lv_aload_n hx hb dL_hangs_547 rfl (lv_at hl 0 rfl) ?_
          refine lv_iload hx hb dL_hangs_548 (lv_at hl 6 rfl) ?_
          refine lv_iload hx hb dL_hangs_550 (lv_at hl 10 rfl) ?_
          obtain ⟨u70, hu70, hf⟩ := pf_b hf
          refine (haT x8 x12 _ _ hu70 hJ).call 3 hE ⟨hx, hb, hml, hown, hts⟩ gL_hangs_L_told rfl (by decide) (by decide +kernel) ⟨Nat.le_of_ble_eq_true rfl, Nat.le_of_ble_eq_true rfl⟩ hP hD hS hA hK rfl hl.1 rfl (lv_room (Nat.le_of_ble_eq_true rfl)) dL_hangs_552 ⟨Nat.le_refl _, Nat.le_refl _⟩ (fun k9 ws H locs h9 hP hD hS => ?_)
          obtain ⟨rfl, hJ⟩ := h9
          refine lv_if_lt (tgt := 615) hx hb dL_hangs_555 (by decide) (fun c71 => ?_) (fun c71 => ?_)
          · have hf := pf_t hf c71
            exact ih.2.2.2.2.2.2.2.2.2.2.2.2.2.2.1 x1 x2 x3 x5 x7 x8 x9 x10 x11 x12 ws H locs hf hJ hP hD hS ls (lv_sub hl [0, 1, 2, 3, 4, 5, 6, 7, 8, 9, 10] rfl)
          · have hf := pf_f hf c71
            refine lv_iload hx hb dL_hangs_558 (lv_at hl 8 rfl) ?_
            refine lv_aload_n hx hb dL_hangs_560 rfl (lv_at hl 0 rfl) ?_
            refine lv_iload hx hb dL_hangs_561 (lv_at hl 6 rfl) ?_
            refine lv_iload hx hb dL_hangs_563 (lv_at hl 10 rfl) ?_
            obtain ⟨u72, hu72, hf⟩ := pf_b hf
            refine (haT x8 x12 _ _ hu72 hJ).call 3 hE ⟨hx, hb, hml, hown, hts⟩ gL_hangs_L_told rfl (by decide) (by decide +kernel) ⟨Nat.le_of_ble_eq_true rfl, Nat.le_of_ble_eq_true rfl⟩ hP hD hS hA hK rfl hl.1 rfl (lv_room (Nat.le_of_ble_eq_true rfl)) dL_hangs_565 ⟨Nat.le_refl _, Nat.le_refl _⟩ (fun k9 ws H locs h9 hP hD hS => ?_)
            obtain ⟨rfl, hJ⟩ := h9
            refine lv_bipush (v := 63) hx hb dL_hangs_568 (by decide) ?_
            refine lv_icmp_ne (tgt := 577) hx hb dL_hangs_570 (by decide) (fun c73 => ?_) (fun c73 => ?_)
            · have hf := pf_f hf c73
              refine lv_iconst (v := 0) hx hb dL_hangs_577 (by decide) ?_
              exact ih.2.2.2.2.2.2.2.2.2.2.2.2.2.1 x1 x2 x3 x5 x7 x8 x9 x11 x12 (0 : Int32) x10 ws H locs hf hJ hP hD hS ls (lv_sub hl [0, 1, 2, 3, 4, 5, 6, 7, 9, 10] rfl)
            · have hf := pf_t hf c73
              refine lv_iconst (v := 1) hx hb dL_hangs_573 (by decide) ?_
              refine lv_goto (tgt := 578) hx hb dL_hangs_574 (by decide) ?_
              exact ih.2.2.2.2.2.2.2.2.2.2.2.2.2.1 x1 x2 x3 x5 x7 x8 x9 x11 x12 (1 : Int32) x10 ws H locs hf hJ hP hD hS ls (lv_sub hl [0, 1, 2, 3, 4, 5, 6, 7, 9, 10] rfl)
      · intro x1 x2 x3 x5 x7 x8 x9 x11 x12 s0 s1 ws H locs hf hJ hP hD hS ls hl
        replace hf : bL_hangs_14 aM aL aC aW aA aT aO aS aG vsh vcs vwo (rL_hangs aM aL aC aW aA aT aO aS aG vsh vcs vwo fu) x1 x2 x3 0 x5 0 x7 x8 x9 0 x11 x12 0 s0 s1 0 0 = some res := hf
        unfold bL_hangs_14 at hf
        refine lv_iadd hx hb dL_hangs_578 ?_
        refine lv_istore (lv' := [(10, .int (s1 + s0)), (0, .ref ad), (1, .int x1), (2, .int x2), (3, .int x3), (5, .int x5), (7, .int x7), (8, .int x8), (9, .int x9), (11, .int x11), (12, .int x12)]) hx hb dL_hangs_579 hl (by decide) rfl (fun ls hl => ?_)
        refine lv_iload hx hb dL_hangs_581 (lv_at hl 9 rfl) ?_
        refine lv_iload hx hb dL_hangs_583 (lv_at hl 10 rfl) ?_
        refine lv_if_eq (tgt := 601) hx hb dL_hangs_585 (by decide) (fun c74 => ?_) (fun c74 => ?_)
        · have hf := pf_t hf c74
          refine lv_iconst (v := 1) hx hb dL_hangs_601 (by decide) ?_
          refine lv_goto (tgt := 606) hx hb dL_hangs_602 (by decide) ?_
          refine lv_iadd hx hb dL_hangs_606 ?_
          refine lv_istore (lv' := [(11, .int (x11 + (1 : Int32))), (10, .int (s1 + s0)), (0, .ref ad), (1, .int x1), (2, .int x2), (3, .int x3), (5, .int x5), (7, .int x7), (8, .int x8), (9, .int x9), (12, .int x12)]) hx hb dL_hangs_607 hl (by decide) rfl (fun ls hl => ?_)
          refine lv_iinc (v := x12 + 1) (lv' := [(12, .int (x12 + 1)), (11, .int (x11 + (1 : Int32))), (10, .int (s1 + s0)), (0, .ref ad), (1, .int x1), (2, .int x2), (3, .int x3), (5, .int x5), (7, .int x7), (8, .int x8), (9, .int x9)]) hx hb dL_hangs_609 hl (k := 10) rfl rfl (by decide) rfl (fun ls hl => ?_)
          refine lv_goto (tgt := 540) hx hb dL_hangs_612 (by decide) ?_
          exact ih.2.2.2.2.2.2.2.2.2.2.2.2.1 x1 x2 x3 x5 x7 x8 x9 (s1 + s0) (x11 + (1 : Int32)) (x12 + 1) ws H locs hf hJ hP hD hS ls (lv_sub hl [3, 4, 5, 6, 7, 8, 9, 10, 2, 1, 0] rfl)
        · have hf := pf_f hf c74
          refine lv_aload_n hx hb dL_hangs_588 rfl (lv_at hl 1 rfl) ?_
          refine lv_iload hx hb dL_hangs_589 (lv_at hl 7 rfl) ?_
          refine lv_iload hx hb dL_hangs_591 (lv_at hl 10 rfl) ?_
          obtain ⟨u75, hu75, hf⟩ := pf_b hf
          refine (haT x8 x12 _ _ hu75 hJ).call 3 hE ⟨hx, hb, hml, hown, hts⟩ gL_hangs_L_told rfl (by decide) (by decide +kernel) ⟨Nat.le_of_ble_eq_true rfl, Nat.le_of_ble_eq_true rfl⟩ hP hD hS hA hK rfl hl.1 rfl (lv_room (Nat.le_of_ble_eq_true rfl)) dL_hangs_593 ⟨Nat.le_refl _, Nat.le_refl _⟩ (fun k9 ws H locs h9 hP hD hS => ?_)
          obtain ⟨rfl, hJ⟩ := h9
          refine lv_bipush (v := 44) hx hb dL_hangs_596 (by decide) ?_
          refine lv_icmp_ne (tgt := 605) hx hb dL_hangs_598 (by decide) (fun c76 => ?_) (fun c76 => ?_)
          · have hf := pf_f hf c76
            refine lv_iconst (v := 0) hx hb dL_hangs_605 (by decide) ?_
            refine lv_iadd hx hb dL_hangs_606 ?_
            refine lv_istore (lv' := [(11, .int (x11 + (0 : Int32))), (10, .int (s1 + s0)), (0, .ref ad), (1, .int x1), (2, .int x2), (3, .int x3), (5, .int x5), (7, .int x7), (8, .int x8), (9, .int x9), (12, .int x12)]) hx hb dL_hangs_607 hl (by decide) rfl (fun ls hl => ?_)
            refine lv_iinc (v := x12 + 1) (lv' := [(12, .int (x12 + 1)), (11, .int (x11 + (0 : Int32))), (10, .int (s1 + s0)), (0, .ref ad), (1, .int x1), (2, .int x2), (3, .int x3), (5, .int x5), (7, .int x7), (8, .int x8), (9, .int x9)]) hx hb dL_hangs_609 hl (k := 10) rfl rfl (by decide) rfl (fun ls hl => ?_)
            refine lv_goto (tgt := 540) hx hb dL_hangs_612 (by decide) ?_
            exact ih.2.2.2.2.2.2.2.2.2.2.2.2.1 x1 x2 x3 x5 x7 x8 x9 (s1 + s0) (x11 + (0 : Int32)) (x12 + 1) ws H locs hf hJ hP hD hS ls (lv_sub hl [3, 4, 5, 6, 7, 8, 9, 10, 2, 1, 0] rfl)
          · have hf := pf_t hf c76
            refine lv_iconst (v := 1) hx hb dL_hangs_601 (by decide) ?_
            refine lv_goto (tgt := 606) hx hb dL_hangs_602 (by decide) ?_
            refine lv_iadd hx hb dL_hangs_606 ?_
            refine lv_istore (lv' := [(11, .int (x11 + (1 : Int32))), (10, .int (s1 + s0)), (0, .ref ad), (1, .int x1), (2, .int x2), (3, .int x3), (5, .int x5), (7, .int x7), (8, .int x8), (9, .int x9), (12, .int x12)]) hx hb dL_hangs_607 hl (by decide) rfl (fun ls hl => ?_)
            refine lv_iinc (v := x12 + 1) (lv' := [(12, .int (x12 + 1)), (11, .int (x11 + (1 : Int32))), (10, .int (s1 + s0)), (0, .ref ad), (1, .int x1), (2, .int x2), (3, .int x3), (5, .int x5), (7, .int x7), (8, .int x8), (9, .int x9)]) hx hb dL_hangs_609 hl (k := 10) rfl rfl (by decide) rfl (fun ls hl => ?_)
            refine lv_goto (tgt := 540) hx hb dL_hangs_612 (by decide) ?_
            exact ih.2.2.2.2.2.2.2.2.2.2.2.2.1 x1 x2 x3 x5 x7 x8 x9 (s1 + s0) (x11 + (1 : Int32)) (x12 + 1) ws H locs hf hJ hP hD hS ls (lv_sub hl [3, 4, 5, 6, 7, 8, 9, 10, 2, 1, 0] rfl)
      · intro x1 x2 x3 x5 x7 x8 x9 x10 x11 x12 ws H locs hf hJ hP hD hS ls hl
        replace hf : bL_hangs_15 aM aL aC aW aA aT aO aS aG vsh vcs vwo (rL_hangs aM aL aC aW aA aT aO aS aG vsh vcs vwo fu) x1 x2 x3 0 x5 0 x7 x8 x9 x10 x11 x12 0 0 0 0 0 = some res := hf
        unfold bL_hangs_15 at hf
        refine lv_iload hx hb dL_hangs_615 (lv_at hl 6 rfl) ?_
        refine lv_iload hx hb dL_hangs_617 (lv_at hl 5 rfl) ?_
        refine lv_icmp_ge (tgt := 755) hx hb dL_hangs_619 (by decide) (fun c77 => ?_) (fun c77 => ?_)
        · have hf := pf_t hf c77
          refine lv_iload hx hb dL_hangs_755 (lv_at hl 7 rfl) ?_
          refine lv_iconst (v := (-1)) hx hb dL_hangs_757 (by decide) ?_
          refine lv_icmp_ne (tgt := 781) hx hb dL_hangs_758 (by decide) (fun c78 => ?_) (fun c78 => ?_)
          · have hf := pf_f hf c78
            refine lv_iconst (v := 0) hx hb dL_hangs_781 (by decide) ?_
            refine lv_istore (lv' := [(4, .int 0), (0, .ref ad), (1, .int x1), (2, .int x2), (3, .int x3), (5, .int x5), (7, .int x7), (8, .int x8), (9, .int x9), (10, .int x10), (11, .int x11), (12, .int x12)]) hx hb dL_hangs_782 hl (by decide) rfl (fun ls hl => ?_)
            refine lv_iinc (v := x8 + 1) (lv' := [(8, .int (x8 + 1)), (4, .int 0), (0, .ref ad), (1, .int x1), (2, .int x2), (3, .int x3), (5, .int x5), (7, .int x7), (9, .int x9), (10, .int x10), (11, .int x11), (12, .int x12)]) hx hb dL_hangs_784 hl (k := 7) rfl rfl (by decide) rfl (fun ls hl => ?_)
            refine lv_goto (tgt := 510) hx hb dL_hangs_787 (by decide) ?_
            exact ih.2.2.2.2.2.2.2.2.2.2.2.1 x1 x2 x3 (0 : Int32) x5 x7 (x8 + 1) ws H locs hf hJ hP hD hS ls (lv_sub hl [2, 3, 4, 5, 1, 6, 7, 0] rfl)
          · have hf := pf_t hf c78
            refine lv_iload hx hb dL_hangs_761 (lv_at hl 10 rfl) ?_
            refine lv_if_ne (tgt := 781) hx hb dL_hangs_763 (by decide) (fun c79 => ?_) (fun c79 => ?_)
            · have hf := pf_f hf c79
              refine lv_iconst (v := 0) hx hb dL_hangs_781 (by decide) ?_
              refine lv_istore (lv' := [(4, .int 0), (0, .ref ad), (1, .int x1), (2, .int x2), (3, .int x3), (5, .int x5), (7, .int x7), (8, .int x8), (9, .int x9), (10, .int x10), (11, .int x11), (12, .int x12)]) hx hb dL_hangs_782 hl (by decide) rfl (fun ls hl => ?_)
              refine lv_iinc (v := x8 + 1) (lv' := [(8, .int (x8 + 1)), (4, .int 0), (0, .ref ad), (1, .int x1), (2, .int x2), (3, .int x3), (5, .int x5), (7, .int x7), (9, .int x9), (10, .int x10), (11, .int x11), (12, .int x12)]) hx hb dL_hangs_784 hl (k := 7) rfl rfl (by decide) rfl (fun ls hl => ?_)
              refine lv_goto (tgt := 510) hx hb dL_hangs_787 (by decide) ?_
              exact ih.2.2.2.2.2.2.2.2.2.2.2.1 x1 x2 x3 (0 : Int32) x5 x7 (x8 + 1) ws H locs hf hJ hP hD hS ls (lv_sub hl [2, 3, 4, 5, 1, 6, 7, 0] rfl)
            · have hf := pf_t hf c79
              refine lv_aload_n hx hb dL_hangs_766 rfl (lv_at hl 0 rfl) ?_
              refine lv_iload hx hb dL_hangs_767 (lv_at hl 6 rfl) ?_
              refine lv_iconst (v := 4) hx hb dL_hangs_769 (by decide) ?_
              obtain ⟨u80, hu80, hf⟩ := pf_b hf
              refine (haA x8 (4 : Int32) _ _ hu80 hJ).call 3 hE ⟨hx, hb, hml, hown, hts⟩ gL_hangs_L_arrival rfl (by decide) (by decide +kernel) ⟨Nat.le_of_ble_eq_true rfl, Nat.le_of_ble_eq_true rfl⟩ hP hD hS hA hK rfl hl.1 rfl (lv_room (Nat.le_of_ble_eq_true rfl)) dL_hangs_770 ⟨Nat.le_refl _, Nat.le_refl _⟩ (fun k9 ws H locs h9 hP hD hS => ?_)
              obtain ⟨rfl, hJ⟩ := h9
              refine lv_iconst (v := (-1)) hx hb dL_hangs_773 (by decide) ?_
              refine lv_icmp_ne (tgt := 781) hx hb dL_hangs_774 (by decide) (fun c81 => ?_) (fun c81 => ?_)
              · have hf := pf_f hf c81
                refine lv_iconst (v := 0) hx hb dL_hangs_781 (by decide) ?_
                refine lv_istore (lv' := [(4, .int 0), (0, .ref ad), (1, .int x1), (2, .int x2), (3, .int x3), (5, .int x5), (7, .int x7), (8, .int x8), (9, .int x9), (10, .int x10), (11, .int x11), (12, .int x12)]) hx hb dL_hangs_782 hl (by decide) rfl (fun ls hl => ?_)
                refine lv_iinc (v := x8 + 1) (lv' := [(8, .int (x8 + 1)), (4, .int 0), (0, .ref ad), (1, .int x1), (2, .int x2), (3, .int x3), (5, .int x5), (7, .int x7), (9, .int x9), (10, .int x10), (11, .int x11), (12, .int x12)]) hx hb dL_hangs_784 hl (k := 7) rfl rfl (by decide) rfl (fun ls hl => ?_)
                refine lv_goto (tgt := 510) hx hb dL_hangs_787 (by decide) ?_
                exact ih.2.2.2.2.2.2.2.2.2.2.2.1 x1 x2 x3 (0 : Int32) x5 x7 (x8 + 1) ws H locs hf hJ hP hD hS ls (lv_sub hl [2, 3, 4, 5, 1, 6, 7, 0] rfl)
              · have hf := pf_t hf c81
                refine lv_iconst (v := 1) hx hb dL_hangs_777 (by decide) ?_
                refine lv_goto (tgt := 782) hx hb dL_hangs_778 (by decide) ?_
                refine lv_istore (lv' := [(4, .int 1), (0, .ref ad), (1, .int x1), (2, .int x2), (3, .int x3), (5, .int x5), (7, .int x7), (8, .int x8), (9, .int x9), (10, .int x10), (11, .int x11), (12, .int x12)]) hx hb dL_hangs_782 hl (by decide) rfl (fun ls hl => ?_)
                refine lv_iinc (v := x8 + 1) (lv' := [(8, .int (x8 + 1)), (4, .int 1), (0, .ref ad), (1, .int x1), (2, .int x2), (3, .int x3), (5, .int x5), (7, .int x7), (9, .int x9), (10, .int x10), (11, .int x11), (12, .int x12)]) hx hb dL_hangs_784 hl (k := 7) rfl rfl (by decide) rfl (fun ls hl => ?_)
                refine lv_goto (tgt := 510) hx hb dL_hangs_787 (by decide) ?_
                exact ih.2.2.2.2.2.2.2.2.2.2.2.1 x1 x2 x3 (1 : Int32) x5 x7 (x8 + 1) ws H locs hf hJ hP hD hS ls (lv_sub hl [2, 3, 4, 5, 1, 6, 7, 0] rfl)
        · have hf := pf_f hf c77
          refine lv_iload hx hb dL_hangs_622 (lv_at hl 7 rfl) ?_
          refine lv_if_lt (tgt := 751) hx hb dL_hangs_624 (by decide) (fun c82 => ?_) (fun c82 => ?_)
          · have hf := pf_t hf c82
            refine lv_iconst (v := 0) hx hb dL_hangs_751 (by decide) ?_
            refine lv_goto (tgt := 782) hx hb dL_hangs_752 (by decide) ?_
            refine lv_istore (lv' := [(4, .int 0), (0, .ref ad), (1, .int x1), (2, .int x2), (3, .int x3), (5, .int x5), (7, .int x7), (8, .int x8), (9, .int x9), (10, .int x10), (11, .int x11), (12, .int x12)]) hx hb dL_hangs_782 hl (by decide) rfl (fun ls hl => ?_)
            refine lv_iinc (v := x8 + 1) (lv' := [(8, .int (x8 + 1)), (4, .int 0), (0, .ref ad), (1, .int x1), (2, .int x2), (3, .int x3), (5, .int x5), (7, .int x7), (9, .int x9), (10, .int x10), (11, .int x11), (12, .int x12)]) hx hb dL_hangs_784 hl (k := 7) rfl rfl (by decide) rfl (fun ls hl => ?_)
            refine lv_goto (tgt := 510) hx hb dL_hangs_787 (by decide) ?_
            exact ih.2.2.2.2.2.2.2.2.2.2.2.1 x1 x2 x3 (0 : Int32) x5 x7 (x8 + 1) ws H locs hf hJ hP hD hS ls (lv_sub hl [2, 3, 4, 5, 1, 6, 7, 0] rfl)
          · have hf := pf_f hf c82
            refine lv_iload hx hb dL_hangs_627 (lv_at hl 7 rfl) ?_
            refine lv_aload_n hx hb dL_hangs_629 rfl (lv_at hl 0 rfl) ?_
            refine lv_iload hx hb dL_hangs_630 (lv_at hl 6 rfl) ?_
            refine lv_iconst (v := 5) hx hb dL_hangs_632 (by decide) ?_
            obtain ⟨u83, hu83, hf⟩ := pf_b hf
            refine (haA x8 (5 : Int32) _ _ hu83 hJ).call 3 hE ⟨hx, hb, hml, hown, hts⟩ gL_hangs_L_arrival rfl (by decide) (by decide +kernel) ⟨Nat.le_of_ble_eq_true rfl, Nat.le_of_ble_eq_true rfl⟩ hP hD hS hA hK rfl hl.1 rfl (lv_room (Nat.le_of_ble_eq_true rfl)) dL_hangs_633 ⟨Nat.le_refl _, Nat.le_refl _⟩ (fun k9 ws H locs h9 hP hD hS => ?_)
            obtain ⟨rfl, hJ⟩ := h9
            refine lv_icmp_gt (tgt := 751) hx hb dL_hangs_636 (by decide) (fun c84 => ?_) (fun c84 => ?_)
            · have hf := pf_t hf c84
              refine lv_iconst (v := 0) hx hb dL_hangs_751 (by decide) ?_
              refine lv_goto (tgt := 782) hx hb dL_hangs_752 (by decide) ?_
              refine lv_istore (lv' := [(4, .int 0), (0, .ref ad), (1, .int x1), (2, .int x2), (3, .int x3), (5, .int x5), (7, .int x7), (8, .int x8), (9, .int x9), (10, .int x10), (11, .int x11), (12, .int x12)]) hx hb dL_hangs_782 hl (by decide) rfl (fun ls hl => ?_)
              refine lv_iinc (v := x8 + 1) (lv' := [(8, .int (x8 + 1)), (4, .int 0), (0, .ref ad), (1, .int x1), (2, .int x2), (3, .int x3), (5, .int x5), (7, .int x7), (9, .int x9), (10, .int x10), (11, .int x11), (12, .int x12)]) hx hb dL_hangs_784 hl (k := 7) rfl rfl (by decide) rfl (fun ls hl => ?_)
              refine lv_goto (tgt := 510) hx hb dL_hangs_787 (by decide) ?_
              exact ih.2.2.2.2.2.2.2.2.2.2.2.1 x1 x2 x3 (0 : Int32) x5 x7 (x8 + 1) ws H locs hf hJ hP hD hS ls (lv_sub hl [2, 3, 4, 5, 1, 6, 7, 0] rfl)
            · have hf := pf_f hf c84
              refine lv_aload_n hx hb dL_hangs_639 rfl (lv_at hl 0 rfl) ?_
              refine lv_iload hx hb dL_hangs_640 (lv_at hl 6 rfl) ?_
              refine lv_iconst (v := 5) hx hb dL_hangs_642 (by decide) ?_
              obtain ⟨u85, hu85, hf⟩ := pf_b hf
              refine (haA x8 (5 : Int32) _ _ hu85 hJ).call 3 hE ⟨hx, hb, hml, hown, hts⟩ gL_hangs_L_arrival rfl (by decide) (by decide +kernel) ⟨Nat.le_of_ble_eq_true rfl, Nat.le_of_ble_eq_true rfl⟩ hP hD hS hA hK rfl hl.1 rfl (lv_room (Nat.le_of_ble_eq_true rfl)) dL_hangs_643 ⟨Nat.le_refl _, Nat.le_refl _⟩ (fun k9 ws H locs h9 hP hD hS => ?_)
              obtain ⟨rfl, hJ⟩ := h9
              refine lv_bipush (v := 13) hx hb dL_hangs_646 (by decide) ?_
              refine lv_icmp_ge (tgt := 751) hx hb dL_hangs_648 (by decide) (fun c86 => ?_) (fun c86 => ?_)
              · have hf := pf_t hf c86
                refine lv_iconst (v := 0) hx hb dL_hangs_751 (by decide) ?_
                refine lv_goto (tgt := 782) hx hb dL_hangs_752 (by decide) ?_
                refine lv_istore (lv' := [(4, .int 0), (0, .ref ad), (1, .int x1), (2, .int x2), (3, .int x3), (5, .int x5), (7, .int x7), (8, .int x8), (9, .int x9), (10, .int x10), (11, .int x11), (12, .int x12)]) hx hb dL_hangs_782 hl (by decide) rfl (fun ls hl => ?_)
                refine lv_iinc (v := x8 + 1) (lv' := [(8, .int (x8 + 1)), (4, .int 0), (0, .ref ad), (1, .int x1), (2, .int x2), (3, .int x3), (5, .int x5), (7, .int x7), (9, .int x9), (10, .int x10), (11, .int x11), (12, .int x12)]) hx hb dL_hangs_784 hl (k := 7) rfl rfl (by decide) rfl (fun ls hl => ?_)
                refine lv_goto (tgt := 510) hx hb dL_hangs_787 (by decide) ?_
                exact ih.2.2.2.2.2.2.2.2.2.2.2.1 x1 x2 x3 (0 : Int32) x5 x7 (x8 + 1) ws H locs hf hJ hP hD hS ls (lv_sub hl [2, 3, 4, 5, 1, 6, 7, 0] rfl)
              · have hf := pf_f hf c86
                refine lv_iload hx hb dL_hangs_651 (lv_at hl 9 rfl) ?_
                refine lv_iload hx hb dL_hangs_653 (lv_at hl 7 rfl) ?_
                refine lv_icmp_ne (tgt := 751) hx hb dL_hangs_655 (by decide) (fun c87 => ?_) (fun c87 => ?_)
                · have hf := pf_f hf c87
                  refine lv_iconst (v := 0) hx hb dL_hangs_751 (by decide) ?_
                  refine lv_goto (tgt := 782) hx hb dL_hangs_752 (by decide) ?_
                  refine lv_istore (lv' := [(4, .int 0), (0, .ref ad), (1, .int x1), (2, .int x2), (3, .int x3), (5, .int x5), (7, .int x7), (8, .int x8), (9, .int x9), (10, .int x10), (11, .int x11), (12, .int x12)]) hx hb dL_hangs_782 hl (by decide) rfl (fun ls hl => ?_)
                  refine lv_iinc (v := x8 + 1) (lv' := [(8, .int (x8 + 1)), (4, .int 0), (0, .ref ad), (1, .int x1), (2, .int x2), (3, .int x3), (5, .int x5), (7, .int x7), (9, .int x9), (10, .int x10), (11, .int x11), (12, .int x12)]) hx hb dL_hangs_784 hl (k := 7) rfl rfl (by decide) rfl (fun ls hl => ?_)
                  refine lv_goto (tgt := 510) hx hb dL_hangs_787 (by decide) ?_
                  exact ih.2.2.2.2.2.2.2.2.2.2.2.1 x1 x2 x3 (0 : Int32) x5 x7 (x8 + 1) ws H locs hf hJ hP hD hS ls (lv_sub hl [2, 3, 4, 5, 1, 6, 7, 0] rfl)
                · have hf := pf_t hf c87
                  refine lv_iload hx hb dL_hangs_658 (lv_at hl 8 rfl) ?_
                  refine lv_aload_n hx hb dL_hangs_660 rfl (lv_at hl 0 rfl) ?_
                  refine lv_iload hx hb dL_hangs_661 (lv_at hl 6 rfl) ?_
                  refine lv_iconst (v := 1) hx hb dL_hangs_663 (by decide) ?_
                  obtain ⟨u88, hu88, hf⟩ := pf_b hf
                  refine (haA x8 (1 : Int32) _ _ hu88 hJ).call 3 hE ⟨hx, hb, hml, hown, hts⟩ gL_hangs_L_arrival rfl (by decide) (by decide +kernel) ⟨Nat.le_of_ble_eq_true rfl, Nat.le_of_ble_eq_true rfl⟩ hP hD hS hA hK rfl hl.1 rfl (lv_room (Nat.le_of_ble_eq_true rfl)) dL_hangs_664 ⟨Nat.le_refl _, Nat.le_refl _⟩ (fun k9 ws H locs h9 hP hD hS => ?_)
                  obtain ⟨rfl, hJ⟩ := h9
                  refine lv_icmp_ne (tgt := 751) hx hb dL_hangs_667 (by decide) (fun c89 => ?_) (fun c89 => ?_)
                  · have hf := pf_f hf c89
                    refine lv_iconst (v := 0) hx hb dL_hangs_751 (by decide) ?_
                    refine lv_goto (tgt := 782) hx hb dL_hangs_752 (by decide) ?_
                    refine lv_istore (lv' := [(4, .int 0), (0, .ref ad), (1, .int x1), (2, .int x2), (3, .int x3), (5, .int x5), (7, .int x7), (8, .int x8), (9, .int x9), (10, .int x10), (11, .int x11), (12, .int x12)]) hx hb dL_hangs_782 hl (by decide) rfl (fun ls hl => ?_)
                    refine lv_iinc (v := x8 + 1) (lv' := [(8, .int (x8 + 1)), (4, .int 0), (0, .ref ad), (1, .int x1), (2, .int x2), (3, .int x3), (5, .int x5), (7, .int x7), (9, .int x9), (10, .int x10), (11, .int x11), (12, .int x12)]) hx hb dL_hangs_784 hl (k := 7) rfl rfl (by decide) rfl (fun ls hl => ?_)
                    refine lv_goto (tgt := 510) hx hb dL_hangs_787 (by decide) ?_
                    exact ih.2.2.2.2.2.2.2.2.2.2.2.1 x1 x2 x3 (0 : Int32) x5 x7 (x8 + 1) ws H locs hf hJ hP hD hS ls (lv_sub hl [2, 3, 4, 5, 1, 6, 7, 0] rfl)
                  · have hf := pf_t hf c89
                    refine lv_aload_n hx hb dL_hangs_670 rfl (lv_at hl 0 rfl) ?_
                    refine lv_iload hx hb dL_hangs_671 (lv_at hl 6 rfl) ?_
                    refine lv_iconst (v := 2) hx hb dL_hangs_673 (by decide) ?_
                    obtain ⟨u90, hu90, hf⟩ := pf_b hf
                    refine (haA x8 (2 : Int32) _ _ hu90 hJ).call 3 hE ⟨hx, hb, hml, hown, hts⟩ gL_hangs_L_arrival rfl (by decide) (by decide +kernel) ⟨Nat.le_of_ble_eq_true rfl, Nat.le_of_ble_eq_true rfl⟩ hP hD hS hA hK rfl hl.1 rfl (lv_room (Nat.le_of_ble_eq_true rfl)) dL_hangs_674 ⟨Nat.le_refl _, Nat.le_refl _⟩ (fun k9 ws H locs h9 hP hD hS => ?_)
                    obtain ⟨rfl, hJ⟩ := h9
                    refine lv_if_lt (tgt := 751) hx hb dL_hangs_677 (by decide) (fun c91 => ?_) (fun c91 => ?_)
                    · have hf := pf_t hf c91
                      refine lv_iconst (v := 0) hx hb dL_hangs_751 (by decide) ?_
                      refine lv_goto (tgt := 782) hx hb dL_hangs_752 (by decide) ?_
                      refine lv_istore (lv' := [(4, .int 0), (0, .ref ad), (1, .int x1), (2, .int x2), (3, .int x3), (5, .int x5), (7, .int x7), (8, .int x8), (9, .int x9), (10, .int x10), (11, .int x11), (12, .int x12)]) hx hb dL_hangs_782 hl (by decide) rfl (fun ls hl => ?_)
                      refine lv_iinc (v := x8 + 1) (lv' := [(8, .int (x8 + 1)), (4, .int 0), (0, .ref ad), (1, .int x1), (2, .int x2), (3, .int x3), (5, .int x5), (7, .int x7), (9, .int x9), (10, .int x10), (11, .int x11), (12, .int x12)]) hx hb dL_hangs_784 hl (k := 7) rfl rfl (by decide) rfl (fun ls hl => ?_)
                      refine lv_goto (tgt := 510) hx hb dL_hangs_787 (by decide) ?_
                      exact ih.2.2.2.2.2.2.2.2.2.2.2.1 x1 x2 x3 (0 : Int32) x5 x7 (x8 + 1) ws H locs hf hJ hP hD hS ls (lv_sub hl [2, 3, 4, 5, 1, 6, 7, 0] rfl)
                    · have hf := pf_f hf c91
                      refine lv_aload_n hx hb dL_hangs_680 rfl (lv_at hl 0 rfl) ?_
                      refine lv_iload hx hb dL_hangs_681 (lv_at hl 6 rfl) ?_
                      refine lv_iconst (v := 3) hx hb dL_hangs_683 (by decide) ?_
                      obtain ⟨u92, hu92, hf⟩ := pf_b hf
                      refine (haA x8 (3 : Int32) _ _ hu92 hJ).call 3 hE ⟨hx, hb, hml, hown, hts⟩ gL_hangs_L_arrival rfl (by decide) (by decide +kernel) ⟨Nat.le_of_ble_eq_true rfl, Nat.le_of_ble_eq_true rfl⟩ hP hD hS hA hK rfl hl.1 rfl (lv_room (Nat.le_of_ble_eq_true rfl)) dL_hangs_684 ⟨Nat.le_refl _, Nat.le_refl _⟩ (fun k9 ws H locs h9 hP hD hS => ?_)
                      obtain ⟨rfl, hJ⟩ := h9
                      refine lv_aload_n hx hb dL_hangs_687 rfl (lv_at hl 0 rfl) ?_
                      refine lv_iload hx hb dL_hangs_688 (lv_at hl 6 rfl) ?_
                      refine lv_iconst (v := 4) hx hb dL_hangs_690 (by decide) ?_
                      obtain ⟨u93, hu93, hf⟩ := pf_b hf
                      refine (haA x8 (4 : Int32) _ _ hu93 hJ).call 3 hE ⟨hx, hb, hml, hown, hts⟩ gL_hangs_L_arrival rfl (by decide) (by decide +kernel) ⟨Nat.le_of_ble_eq_true rfl, Nat.le_of_ble_eq_true rfl⟩ hP hD hS hA hK rfl hl.1 rfl (lv_room (Nat.le_of_ble_eq_true rfl)) dL_hangs_691 ⟨Nat.le_refl _, Nat.le_refl _⟩ (fun k9 ws H locs h9 hP hD hS => ?_)
                      obtain ⟨rfl, hJ⟩ := h9
                      refine lv_icmp_ne (tgt := 751) hx hb dL_hangs_694 (by decide) (fun c94 => ?_) (fun c94 => ?_)
                      · have hf := pf_f hf c94
                        refine lv_iconst (v := 0) hx hb dL_hangs_751 (by decide) ?_
                        refine lv_goto (tgt := 782) hx hb dL_hangs_752 (by decide) ?_
                        refine lv_istore (lv' := [(4, .int 0), (0, .ref ad), (1, .int x1), (2, .int x2), (3, .int x3), (5, .int x5), (7, .int x7), (8, .int x8), (9, .int x9), (10, .int x10), (11, .int x11), (12, .int x12)]) hx hb dL_hangs_782 hl (by decide) rfl (fun ls hl => ?_)
                        refine lv_iinc (v := x8 + 1) (lv' := [(8, .int (x8 + 1)), (4, .int 0), (0, .ref ad), (1, .int x1), (2, .int x2), (3, .int x3), (5, .int x5), (7, .int x7), (9, .int x9), (10, .int x10), (11, .int x11), (12, .int x12)]) hx hb dL_hangs_784 hl (k := 7) rfl rfl (by decide) rfl (fun ls hl => ?_)
                        refine lv_goto (tgt := 510) hx hb dL_hangs_787 (by decide) ?_
                        exact ih.2.2.2.2.2.2.2.2.2.2.2.1 x1 x2 x3 (0 : Int32) x5 x7 (x8 + 1) ws H locs hf hJ hP hD hS ls (lv_sub hl [2, 3, 4, 5, 1, 6, 7, 0] rfl)
                      · have hf := pf_t hf c94
                        refine lv_aload_n hx hb dL_hangs_697 rfl (lv_at hl 0 rfl) ?_
                        refine lv_iload hx hb dL_hangs_698 (lv_at hl 6 rfl) ?_
                        refine lv_iconst (v := 3) hx hb dL_hangs_700 (by decide) ?_
                        obtain ⟨u95, hu95, hf⟩ := pf_b hf
                        refine (haA x8 (3 : Int32) _ _ hu95 hJ).call 3 hE ⟨hx, hb, hml, hown, hts⟩ gL_hangs_L_arrival rfl (by decide) (by decide +kernel) ⟨Nat.le_of_ble_eq_true rfl, Nat.le_of_ble_eq_true rfl⟩ hP hD hS hA hK rfl hl.1 rfl (lv_room (Nat.le_of_ble_eq_true rfl)) dL_hangs_701 ⟨Nat.le_refl _, Nat.le_refl _⟩ (fun k9 ws H locs h9 hP hD hS => ?_)
                        obtain ⟨rfl, hJ⟩ := h9
                        refine lv_iconst (v := (-1)) hx hb dL_hangs_704 (by decide) ?_
                        refine lv_icmp_lt (tgt := 751) hx hb dL_hangs_705 (by decide) (fun c96 => ?_) (fun c96 => ?_)
                        · have hf := pf_t hf c96
                          refine lv_iconst (v := 0) hx hb dL_hangs_751 (by decide) ?_
                          refine lv_goto (tgt := 782) hx hb dL_hangs_752 (by decide) ?_
                          refine lv_istore (lv' := [(4, .int 0), (0, .ref ad), (1, .int x1), (2, .int x2), (3, .int x3), (5, .int x5), (7, .int x7), (8, .int x8), (9, .int x9), (10, .int x10), (11, .int x11), (12, .int x12)]) hx hb dL_hangs_782 hl (by decide) rfl (fun ls hl => ?_)
                          refine lv_iinc (v := x8 + 1) (lv' := [(8, .int (x8 + 1)), (4, .int 0), (0, .ref ad), (1, .int x1), (2, .int x2), (3, .int x3), (5, .int x5), (7, .int x7), (9, .int x9), (10, .int x10), (11, .int x11), (12, .int x12)]) hx hb dL_hangs_784 hl (k := 7) rfl rfl (by decide) rfl (fun ls hl => ?_)
                          refine lv_goto (tgt := 510) hx hb dL_hangs_787 (by decide) ?_
                          exact ih.2.2.2.2.2.2.2.2.2.2.2.1 x1 x2 x3 (0 : Int32) x5 x7 (x8 + 1) ws H locs hf hJ hP hD hS ls (lv_sub hl [2, 3, 4, 5, 1, 6, 7, 0] rfl)
                        · have hf := pf_f hf c96
                          refine lv_aload_n hx hb dL_hangs_708 rfl (lv_at hl 0 rfl) ?_
                          refine lv_iload hx hb dL_hangs_709 (lv_at hl 6 rfl) ?_
                          refine lv_iconst (v := 3) hx hb dL_hangs_711 (by decide) ?_
                          obtain ⟨u97, hu97, hf⟩ := pf_b hf
                          refine (haA x8 (3 : Int32) _ _ hu97 hJ).call 3 hE ⟨hx, hb, hml, hown, hts⟩ gL_hangs_L_arrival rfl (by decide) (by decide +kernel) ⟨Nat.le_of_ble_eq_true rfl, Nat.le_of_ble_eq_true rfl⟩ hP hD hS hA hK rfl hl.1 rfl (lv_room (Nat.le_of_ble_eq_true rfl)) dL_hangs_712 ⟨Nat.le_refl _, Nat.le_refl _⟩ (fun k9 ws H locs h9 hP hD hS => ?_)
                          obtain ⟨rfl, hJ⟩ := h9
                          refine lv_bipush (v := 6) hx hb dL_hangs_715 (by decide) ?_
                          refine lv_icmp_ge (tgt := 751) hx hb dL_hangs_717 (by decide) (fun c98 => ?_) (fun c98 => ?_)
                          · have hf := pf_t hf c98
                            refine lv_iconst (v := 0) hx hb dL_hangs_751 (by decide) ?_
                            refine lv_goto (tgt := 782) hx hb dL_hangs_752 (by decide) ?_
                            refine lv_istore (lv' := [(4, .int 0), (0, .ref ad), (1, .int x1), (2, .int x2), (3, .int x3), (5, .int x5), (7, .int x7), (8, .int x8), (9, .int x9), (10, .int x10), (11, .int x11), (12, .int x12)]) hx hb dL_hangs_782 hl (by decide) rfl (fun ls hl => ?_)
                            refine lv_iinc (v := x8 + 1) (lv' := [(8, .int (x8 + 1)), (4, .int 0), (0, .ref ad), (1, .int x1), (2, .int x2), (3, .int x3), (5, .int x5), (7, .int x7), (9, .int x9), (10, .int x10), (11, .int x11), (12, .int x12)]) hx hb dL_hangs_784 hl (k := 7) rfl rfl (by decide) rfl (fun ls hl => ?_)
                            refine lv_goto (tgt := 510) hx hb dL_hangs_787 (by decide) ?_
                            exact ih.2.2.2.2.2.2.2.2.2.2.2.1 x1 x2 x3 (0 : Int32) x5 x7 (x8 + 1) ws H locs hf hJ hP hD hS ls (lv_sub hl [2, 3, 4, 5, 1, 6, 7, 0] rfl)
                          · have hf := pf_f hf c98
                            refine lv_aload_n hx hb dL_hangs_720 rfl (lv_at hl 0 rfl) ?_
                            refine lv_iload hx hb dL_hangs_721 (lv_at hl 6 rfl) ?_
                            refine lv_iconst (v := 3) hx hb dL_hangs_723 (by decide) ?_
                            obtain ⟨u99, hu99, hf⟩ := pf_b hf
                            refine (haA x8 (3 : Int32) _ _ hu99 hJ).call 3 hE ⟨hx, hb, hml, hown, hts⟩ gL_hangs_L_arrival rfl (by decide) (by decide +kernel) ⟨Nat.le_of_ble_eq_true rfl, Nat.le_of_ble_eq_true rfl⟩ hP hD hS hA hK rfl hl.1 rfl (lv_room (Nat.le_of_ble_eq_true rfl)) dL_hangs_724 ⟨Nat.le_refl _, Nat.le_refl _⟩ (fun k9 ws H locs h9 hP hD hS => ?_)
                            obtain ⟨rfl, hJ⟩ := h9
                            refine lv_if_ge (tgt := 747) hx hb dL_hangs_727 (by decide) (fun c100 => ?_) (fun c100 => ?_)
                            · have hf := pf_t hf c100
                              refine lv_iconst (v := 1) hx hb dL_hangs_747 (by decide) ?_
                              refine lv_goto (tgt := 782) hx hb dL_hangs_748 (by decide) ?_
                              refine lv_istore (lv' := [(4, .int 1), (0, .ref ad), (1, .int x1), (2, .int x2), (3, .int x3), (5, .int x5), (7, .int x7), (8, .int x8), (9, .int x9), (10, .int x10), (11, .int x11), (12, .int x12)]) hx hb dL_hangs_782 hl (by decide) rfl (fun ls hl => ?_)
                              refine lv_iinc (v := x8 + 1) (lv' := [(8, .int (x8 + 1)), (4, .int 1), (0, .ref ad), (1, .int x1), (2, .int x2), (3, .int x3), (5, .int x5), (7, .int x7), (9, .int x9), (10, .int x10), (11, .int x11), (12, .int x12)]) hx hb dL_hangs_784 hl (k := 7) rfl rfl (by decide) rfl (fun ls hl => ?_)
                              refine lv_goto (tgt := 510) hx hb dL_hangs_787 (by decide) ?_
                              exact ih.2.2.2.2.2.2.2.2.2.2.2.1 x1 x2 x3 (1 : Int32) x5 x7 (x8 + 1) ws H locs hf hJ hP hD hS ls (lv_sub hl [2, 3, 4, 5, 1, 6, 7, 0] rfl)
                            · have hf := pf_f hf c100
                              refine lv_iload hx hb dL_hangs_730 (lv_at hl 7 rfl) ?_
                              refine lv_aload_n hx hb dL_hangs_732 rfl (lv_at hl 0 rfl) ?_
                              refine lv_iload hx hb dL_hangs_733 (lv_at hl 6 rfl) ?_
                              refine lv_iconst (v := 5) hx hb dL_hangs_735 (by decide) ?_
                              obtain ⟨u101, hu101, hf⟩ := pf_b hf
                              refine (haA x8 (5 : Int32) _ _ hu101 hJ).call 3 hE ⟨hx, hb, hml, hown, hts⟩ gL_hangs_L_arrival rfl (by decide) (by decide +kernel) ⟨Nat.le_of_ble_eq_true rfl, Nat.le_of_ble_eq_true rfl⟩ hP hD hS hA hK rfl hl.1 rfl (lv_room (Nat.le_of_ble_eq_true rfl)) dL_hangs_736 ⟨Nat.le_refl _, Nat.le_refl _⟩ (fun k9 ws H locs h9 hP hD hS => ?_)
                              obtain ⟨rfl, hJ⟩ := h9
                              refine lv_icmp_ne (tgt := 751) hx hb dL_hangs_739 (by decide) (fun c102 => ?_) (fun c102 => ?_)
                              · have hf := pf_f hf c102
                                refine lv_iconst (v := 0) hx hb dL_hangs_751 (by decide) ?_
                                refine lv_goto (tgt := 782) hx hb dL_hangs_752 (by decide) ?_
                                refine lv_istore (lv' := [(4, .int 0), (0, .ref ad), (1, .int x1), (2, .int x2), (3, .int x3), (5, .int x5), (7, .int x7), (8, .int x8), (9, .int x9), (10, .int x10), (11, .int x11), (12, .int x12)]) hx hb dL_hangs_782 hl (by decide) rfl (fun ls hl => ?_)
                                refine lv_iinc (v := x8 + 1) (lv' := [(8, .int (x8 + 1)), (4, .int 0), (0, .ref ad), (1, .int x1), (2, .int x2), (3, .int x3), (5, .int x5), (7, .int x7), (9, .int x9), (10, .int x10), (11, .int x11), (12, .int x12)]) hx hb dL_hangs_784 hl (k := 7) rfl rfl (by decide) rfl (fun ls hl => ?_)
                                refine lv_goto (tgt := 510) hx hb dL_hangs_787 (by decide) ?_
                                exact ih.2.2.2.2.2.2.2.2.2.2.2.1 x1 x2 x3 (0 : Int32) x5 x7 (x8 + 1) ws H locs hf hJ hP hD hS ls (lv_sub hl [2, 3, 4, 5, 1, 6, 7, 0] rfl)
                              · have hf := pf_t hf c102
                                refine lv_iload hx hb dL_hangs_742 (lv_at hl 8 rfl) ?_
                                refine lv_if_ne (tgt := 751) hx hb dL_hangs_744 (by decide) (fun c103 => ?_) (fun c103 => ?_)
                                · have hf := pf_f hf c103
                                  refine lv_iconst (v := 0) hx hb dL_hangs_751 (by decide) ?_
                                  refine lv_goto (tgt := 782) hx hb dL_hangs_752 (by decide) ?_
                                  refine lv_istore (lv' := [(4, .int 0), (0, .ref ad), (1, .int x1), (2, .int x2), (3, .int x3), (5, .int x5), (7, .int x7), (8, .int x8), (9, .int x9), (10, .int x10), (11, .int x11), (12, .int x12)]) hx hb dL_hangs_782 hl (by decide) rfl (fun ls hl => ?_)
                                  refine lv_iinc (v := x8 + 1) (lv' := [(8, .int (x8 + 1)), (4, .int 0), (0, .ref ad), (1, .int x1), (2, .int x2), (3, .int x3), (5, .int x5), (7, .int x7), (9, .int x9), (10, .int x10), (11, .int x11), (12, .int x12)]) hx hb dL_hangs_784 hl (k := 7) rfl rfl (by decide) rfl (fun ls hl => ?_)
                                  refine lv_goto (tgt := 510) hx hb dL_hangs_787 (by decide) ?_
                                  exact ih.2.2.2.2.2.2.2.2.2.2.2.1 x1 x2 x3 (0 : Int32) x5 x7 (x8 + 1) ws H locs hf hJ hP hD hS ls (lv_sub hl [2, 3, 4, 5, 1, 6, 7, 0] rfl)
                                · have hf := pf_t hf c103
                                  refine lv_iconst (v := 1) hx hb dL_hangs_747 (by decide) ?_
                                  refine lv_goto (tgt := 782) hx hb dL_hangs_748 (by decide) ?_
                                  refine lv_istore (lv' := [(4, .int 1), (0, .ref ad), (1, .int x1), (2, .int x2), (3, .int x3), (5, .int x5), (7, .int x7), (8, .int x8), (9, .int x9), (10, .int x10), (11, .int x11), (12, .int x12)]) hx hb dL_hangs_782 hl (by decide) rfl (fun ls hl => ?_)
                                  refine lv_iinc (v := x8 + 1) (lv' := [(8, .int (x8 + 1)), (4, .int 1), (0, .ref ad), (1, .int x1), (2, .int x2), (3, .int x3), (5, .int x5), (7, .int x7), (9, .int x9), (10, .int x10), (11, .int x11), (12, .int x12)]) hx hb dL_hangs_784 hl (k := 7) rfl rfl (by decide) rfl (fun ls hl => ?_)
                                  refine lv_goto (tgt := 510) hx hb dL_hangs_787 (by decide) ?_
                                  exact ih.2.2.2.2.2.2.2.2.2.2.2.1 x1 x2 x3 (1 : Int32) x5 x7 (x8 + 1) ws H locs hf hJ hP hD hS ls (lv_sub hl [2, 3, 4, 5, 1, 6, 7, 0] rfl)
      · intro x1 x2 x3 x4 x5 x7 ws H locs hf hJ hP hD hS ls hl
        replace hf : bL_hangs_16 aM aL aC aW aA aT aO aS aG vsh vcs vwo (rL_hangs aM aL aC aW aA aT aO aS aG vsh vcs vwo fu) x1 x2 x3 x4 x5 0 x7 0 0 0 0 0 0 0 0 0 0 = some res := hf
        unfold bL_hangs_16 at hf
        refine lv_iconst (v := 0) hx hb dL_hangs_790 (by decide) ?_
        refine lv_istore (lv' := [(8, .int 0), (0, .ref ad), (1, .int x1), (2, .int x2), (3, .int x3), (4, .int x4), (5, .int x5), (7, .int x7)]) hx hb dL_hangs_791 hl (by decide) rfl (fun ls hl => ?_)
        refine lv_iconst (v := 0) hx hb dL_hangs_793 (by decide) ?_
        refine lv_istore (lv' := [(9, .int 0), (8, .int 0), (0, .ref ad), (1, .int x1), (2, .int x2), (3, .int x3), (4, .int x4), (5, .int x5), (7, .int x7)]) hx hb dL_hangs_794 hl (by decide) rfl (fun ls hl => ?_)
        refine lv_ldc hx hb hown k1 dL_hangs_796 ?_
        refine lv_istore (lv' := [(10, .int 1073741824), (9, .int 0), (8, .int 0), (0, .ref ad), (1, .int x1), (2, .int x2), (3, .int x3), (4, .int x4), (5, .int x5), (7, .int x7)]) hx hb dL_hangs_798 hl (by decide) rfl (fun ls hl => ?_)
        refine lv_iconst (v := 0) hx hb dL_hangs_800 (by decide) ?_
        refine lv_istore (lv' := [(11, .int 0), (10, .int 1073741824), (9, .int 0), (8, .int 0), (0, .ref ad), (1, .int x1), (2, .int x2), (3, .int x3), (4, .int x4), (5, .int x5), (7, .int x7)]) hx hb dL_hangs_801 hl (by decide) rfl (fun ls hl => ?_)
        exact ih.2.2.2.2.2.2.2.2.2.2.2.2.2.2.2.2.1 x1 x2 x3 x4 x5 x7 (0 : Int32) (0 : Int32) (1073741824 : Int32) (0 : Int32) ws H locs hf hJ hP hD hS ls (lv_sub hl [4, 5, 6, 7, 8, 9, 10, 3, 2, 1, 0] rfl)
      · intro x1 x2 x3 x4 x5 x7 x8 x9 x10 x11 ws H locs hf hJ hP hD hS ls hl
        replace hf : bL_hangs_17 aM aL aC aW aA aT aO aS aG vsh vcs vwo (rL_hangs aM aL aC aW aA aT aO aS aG vsh vcs vwo fu) x1 x2 x3 x4 x5 0 x7 x8 x9 x10 x11 0 0 0 0 0 0 = some res := hf
        unfold bL_hangs_17 at hf
        refine lv_iload hx hb dL_hangs_803 (lv_at hl 10 rfl) ?_
        refine lv_bipush (v := 30) hx hb dL_hangs_805 (by decide) ?_
        refine lv_icmp_ge (tgt := 926) hx hb dL_hangs_807 (by decide) (fun c104 => ?_) (fun c104 => ?_)
        · have hf := pf_t hf c104
          exact ih.2.2.2.2.2.2.2.2.2.2.2.2.2.2.2.2.2.2.2.1 x1 x2 x3 x4 x5 x7 x8 ws H locs hf hJ hP hD hS ls (lv_sub hl [0, 1, 2, 3, 4, 5, 6, 7] rfl)
        · have hf := pf_f hf c104
          refine lv_iload hx hb dL_hangs_810 (lv_at hl 4 rfl) ?_
          refine lv_if_eq (tgt := 926) hx hb dL_hangs_812 (by decide) (fun c105 => ?_) (fun c105 => ?_)
          · have hf := pf_t hf c105
            exact ih.2.2.2.2.2.2.2.2.2.2.2.2.2.2.2.2.2.2.2.1 x1 x2 x3 x4 x5 x7 x8 ws H locs hf hJ hP hD hS ls (lv_sub hl [0, 1, 2, 3, 4, 5, 6, 7] rfl)
          · have hf := pf_f hf c105
            refine lv_aload_n hx hb dL_hangs_815 rfl (lv_at hl 0 rfl) ?_
            refine lv_iload hx hb dL_hangs_816 (lv_at hl 10 rfl) ?_
            refine lv_iconst (v := 0) hx hb dL_hangs_818 (by decide) ?_
            obtain ⟨u106, hu106, hf⟩ := pf_b hf
            refine (haO x11 (0 : Int32) _ _ hu106 hJ).call 3 hE ⟨hx, hb, hml, hown, hts⟩ gL_hangs_L_lost rfl (by decide) (by decide +kernel) ⟨Nat.le_of_ble_eq_true rfl, Nat.le_of_ble_eq_true rfl⟩ hP hD hS hA hK rfl hl.1 rfl (lv_room (Nat.le_of_ble_eq_true rfl)) dL_hangs_819 ⟨Nat.le_refl _, Nat.le_refl _⟩ (fun k9 ws H locs h9 hP hD hS => ?_)
            obtain ⟨rfl, hJ⟩ := h9
            refine lv_istore (lv' := [(12, .int u106), (0, .ref ad), (1, .int x1), (2, .int x2), (3, .int x3), (4, .int x4), (5, .int x5), (7, .int x7), (8, .int x8), (9, .int x9), (10, .int x10), (11, .int x11)]) hx hb dL_hangs_822 hl (by decide) rfl (fun ls hl => ?_)
            refine lv_iload hx hb dL_hangs_824 (lv_at hl 0 rfl) ?_
            refine lv_if_lt (tgt := 883) hx hb dL_hangs_826 (by decide) (fun c107 => ?_) (fun c107 => ?_)
            · have hf := pf_t hf c107
              refine lv_iconst (v := 0) hx hb dL_hangs_883 (by decide) ?_
              exact ih.2.2.2.2.2.2.2.2.2.2.2.2.2.2.2.2.2.1 x1 x2 x3 x5 x7 x8 x9 x11 u106 (0 : Int32) ws H locs hf hJ hP hD hS ls (lv_sub hl [1, 2, 3, 4, 6, 7, 8, 9, 11, 0] rfl)
            · have hf := pf_f hf c107
              refine lv_iload hx hb dL_hangs_829 (lv_at hl 0 rfl) ?_
              refine lv_bipush (v := 30) hx hb dL_hangs_831 (by decide) ?_
              refine lv_icmp_ge (tgt := 883) hx hb dL_hangs_833 (by decide) (fun c108 => ?_) (fun c108 => ?_)
              · have hf := pf_t hf c108
                refine lv_iconst (v := 0) hx hb dL_hangs_883 (by decide) ?_
                exact ih.2.2.2.2.2.2.2.2.2.2.2.2.2.2.2.2.2.1 x1 x2 x3 x5 x7 x8 x9 x11 u106 (0 : Int32) ws H locs hf hJ hP hD hS ls (lv_sub hl [1, 2, 3, 4, 6, 7, 8, 9, 11, 0] rfl)
              · have hf := pf_f hf c108
                refine lv_iload hx hb dL_hangs_836 (lv_at hl 9 rfl) ?_
                refine lv_iload hx hb dL_hangs_838 (lv_at hl 0 rfl) ?_
                refine lv_ishr hx hb dL_hangs_840 ?_
                refine lv_iconst (v := 1) hx hb dL_hangs_841 (by decide) ?_
                refine lv_iand hx hb dL_hangs_842 ?_
                refine lv_if_ne (tgt := 883) hx hb dL_hangs_843 (by decide) (fun c109 => ?_) (fun c109 => ?_)
                · have hf := pf_f hf c109
                  refine lv_iconst (v := 0) hx hb dL_hangs_883 (by decide) ?_
                  exact ih.2.2.2.2.2.2.2.2.2.2.2.2.2.2.2.2.2.1 x1 x2 x3 x5 x7 x8 x9 x11 u106 (0 : Int32) ws H locs hf hJ hP hD hS ls (lv_sub hl [1, 2, 3, 4, 6, 7, 8, 9, 11, 0] rfl)
                · have hf := pf_t hf c109
                  refine lv_aload_n hx hb dL_hangs_846 rfl (lv_at hl 1 rfl) ?_
                  refine lv_iload hx hb dL_hangs_847 (lv_at hl 11 rfl) ?_
                  refine lv_iconst (v := 1) hx hb dL_hangs_849 (by decide) ?_
                  obtain ⟨u110, hu110, hf⟩ := pf_b hf
                  refine (haO x11 (1 : Int32) _ _ hu110 hJ).call 3 hE ⟨hx, hb, hml, hown, hts⟩ gL_hangs_L_lost rfl (by decide) (by decide +kernel) ⟨Nat.le_of_ble_eq_true rfl, Nat.le_of_ble_eq_true rfl⟩ hP hD hS hA hK rfl hl.1 rfl (lv_room (Nat.le_of_ble_eq_true rfl)) dL_hangs_850 ⟨Nat.le_refl _, Nat.le_refl _⟩ (fun k9 ws H locs h9 hP hD hS => ?_)
                  obtain ⟨rfl, hJ⟩ := h9
                  refine lv_if_lt (tgt := 883) hx hb dL_hangs_853 (by decide) (fun c111 => ?_) (fun c111 => ?_)
                  · have hf := pf_t hf c111
                    refine lv_iconst (v := 0) hx hb dL_hangs_883 (by decide) ?_
                    exact ih.2.2.2.2.2.2.2.2.2.2.2.2.2.2.2.2.2.1 x1 x2 x3 x5 x7 x8 x9 x11 u106 (0 : Int32) ws H locs hf hJ hP hD hS ls (lv_sub hl [1, 2, 3, 4, 6, 7, 8, 9, 11, 0] rfl)
                  · have hf := pf_f hf c111
                    refine lv_aload_n hx hb dL_hangs_856 rfl (lv_at hl 1 rfl) ?_
                    refine lv_iload hx hb dL_hangs_857 (lv_at hl 11 rfl) ?_
                    refine lv_iconst (v := 1) hx hb dL_hangs_859 (by decide) ?_
                    obtain ⟨u112, hu112, hf⟩ := pf_b hf
                    refine (haO x11 (1 : Int32) _ _ hu112 hJ).call 3 hE ⟨hx, hb, hml, hown, hts⟩ gL_hangs_L_lost rfl (by decide) (by decide +kernel) ⟨Nat.le_of_ble_eq_true rfl, Nat.le_of_ble_eq_true rfl⟩ hP hD hS hA hK rfl hl.1 rfl (lv_room (Nat.le_of_ble_eq_true rfl)) dL_hangs_860 ⟨Nat.le_refl _, Nat.le_refl _⟩ (fun k9 ws H locs h9 hP hD hS => ?_)
                    obtain ⟨rfl, hJ⟩ := h9
                    refine lv_iload hx hb dL_hangs_863 (lv_at hl 10 rfl) ?_
                    refine lv_icmp_gt (tgt := 883) hx hb dL_hangs_865 (by decide) (fun c113 => ?_) (fun c113 => ?_)
                    · have hf := pf_t hf c113
                      refine lv_iconst (v := 0) hx hb dL_hangs_883 (by decide) ?_
                      exact ih.2.2.2.2.2.2.2.2.2.2.2.2.2.2.2.2.2.1 x1 x2 x3 x5 x7 x8 x9 x11 u106 (0 : Int32) ws H locs hf hJ hP hD hS ls (lv_sub hl [1, 2, 3, 4, 6, 7, 8, 9, 11, 0] rfl)
                    · have hf := pf_f hf c113
                      refine lv_aload_n hx hb dL_hangs_868 rfl (lv_at hl 1 rfl) ?_
                      refine lv_iload hx hb dL_hangs_869 (lv_at hl 11 rfl) ?_
                      refine lv_iconst (v := 1) hx hb dL_hangs_871 (by decide) ?_
                      obtain ⟨u114, hu114, hf⟩ := pf_b hf
                      refine (haO x11 (1 : Int32) _ _ hu114 hJ).call 3 hE ⟨hx, hb, hml, hown, hts⟩ gL_hangs_L_lost rfl (by decide) (by decide +kernel) ⟨Nat.le_of_ble_eq_true rfl, Nat.le_of_ble_eq_true rfl⟩ hP hD hS hA hK rfl hl.1 rfl (lv_room (Nat.le_of_ble_eq_true rfl)) dL_hangs_872 ⟨Nat.le_refl _, Nat.le_refl _⟩ (fun k9 ws H locs h9 hP hD hS => ?_)
                      obtain ⟨rfl, hJ⟩ := h9
                      refine lv_iload_n hx hb dL_hangs_875 rfl (lv_at hl 4 rfl) ?_
                      refine lv_icmp_gt (tgt := 883) hx hb dL_hangs_876 (by decide) (fun c115 => ?_) (fun c115 => ?_)
                      · have hf := pf_t hf c115
                        refine lv_iconst (v := 0) hx hb dL_hangs_883 (by decide) ?_
                        exact ih.2.2.2.2.2.2.2.2.2.2.2.2.2.2.2.2.2.1 x1 x2 x3 x5 x7 x8 x9 x11 u106 (0 : Int32) ws H locs hf hJ hP hD hS ls (lv_sub hl [1, 2, 3, 4, 6, 7, 8, 9, 11, 0] rfl)
                      · have hf := pf_f hf c115
                        refine lv_iconst (v := 1) hx hb dL_hangs_879 (by decide) ?_
                        refine lv_goto (tgt := 884) hx hb dL_hangs_880 (by decide) ?_
                        exact ih.2.2.2.2.2.2.2.2.2.2.2.2.2.2.2.2.2.1 x1 x2 x3 x5 x7 x8 x9 x11 u106 (1 : Int32) ws H locs hf hJ hP hD hS ls (lv_sub hl [1, 2, 3, 4, 6, 7, 8, 9, 11, 0] rfl)
      · intro x1 x2 x3 x5 x7 x8 x9 x11 x12 s0 ws H locs hf hJ hP hD hS ls hl
        replace hf : bL_hangs_18 aM aL aC aW aA aT aO aS aG vsh vcs vwo (rL_hangs aM aL aC aW aA aT aO aS aG vsh vcs vwo fu) x1 x2 x3 0 x5 0 x7 x8 x9 0 x11 x12 0 s0 0 0 0 = some res := hf
        unfold bL_hangs_18 at hf
        refine lv_istore (lv' := [(4, .int s0), (0, .ref ad), (1, .int x1), (2, .int x2), (3, .int x3), (5, .int x5), (7, .int x7), (8, .int x8), (9, .int x9), (11, .int x11), (12, .int x12)]) hx hb dL_hangs_884 hl (by decide) rfl (fun ls hl => ?_)
        refine lv_iload hx hb dL_hangs_886 (lv_at hl 8 rfl) ?_
        refine lv_iload hx hb dL_hangs_888 (lv_at hl 0 rfl) ?_
        refine lv_if_eq (tgt := 900) hx hb dL_hangs_890 (by decide) (fun c116 => ?_) (fun c116 => ?_)
        · have hf := pf_t hf c116
          refine lv_iconst (v := 0) hx hb dL_hangs_900 (by decide) ?_
          exact ih.2.2.2.2.2.2.2.2.2.2.2.2.2.2.2.2.2.2.1 x1 x2 x3 s0 x5 x7 x8 x11 (0 : Int32) x9 ws H locs hf hJ hP hD hS ls (lv_sub hl [1, 2, 3, 4, 0, 5, 6, 7, 9] rfl)
        · have hf := pf_f hf c116
          refine lv_iconst (v := 1) hx hb dL_hangs_893 (by decide) ?_
          refine lv_iload hx hb dL_hangs_894 (lv_at hl 10 rfl) ?_
          refine lv_ishl hx hb dL_hangs_896 ?_
          refine lv_goto (tgt := 901) hx hb dL_hangs_897 (by decide) ?_
          exact ih.2.2.2.2.2.2.2.2.2.2.2.2.2.2.2.2.2.2.1 x1 x2 x3 s0 x5 x7 x8 x11 ((1 : Int32) <<< (x12 &&& 31)) x9 ws H locs hf hJ hP hD hS ls (lv_sub hl [1, 2, 3, 4, 0, 5, 6, 7, 9] rfl)
      · intro x1 x2 x3 x4 x5 x7 x8 x11 s0 s1 ws H locs hf hJ hP hD hS ls hl
        replace hf : bL_hangs_19 aM aL aC aW aA aT aO aS aG vsh vcs vwo (rL_hangs aM aL aC aW aA aT aO aS aG vsh vcs vwo fu) x1 x2 x3 x4 x5 0 x7 x8 0 0 x11 0 0 s0 s1 0 0 = some res := hf
        unfold bL_hangs_19 at hf
        refine lv_ior hx hb dL_hangs_901 ?_
        refine lv_istore (lv' := [(9, .int (s1 ||| s0)), (0, .ref ad), (1, .int x1), (2, .int x2), (3, .int x3), (4, .int x4), (5, .int x5), (7, .int x7), (8, .int x8), (11, .int x11)]) hx hb dL_hangs_902 hl (by decide) rfl (fun ls hl => ?_)
        refine lv_aload_n hx hb dL_hangs_904 rfl (lv_at hl 1 rfl) ?_
        refine lv_iload hx hb dL_hangs_905 (lv_at hl 9 rfl) ?_
        refine lv_iconst (v := 1) hx hb dL_hangs_907 (by decide) ?_
        obtain ⟨u117, hu117, hf⟩ := pf_b hf
        refine (haO x11 (1 : Int32) _ _ hu117 hJ).call 3 hE ⟨hx, hb, hml, hown, hts⟩ gL_hangs_L_lost rfl (by decide) (by decide +kernel) ⟨Nat.le_of_ble_eq_true rfl, Nat.le_of_ble_eq_true rfl⟩ hP hD hS hA hK rfl hl.1 rfl (lv_room (Nat.le_of_ble_eq_true rfl)) dL_hangs_908 ⟨Nat.le_refl _, Nat.le_refl _⟩ (fun k9 ws H locs h9 hP hD hS => ?_)
        obtain ⟨rfl, hJ⟩ := h9
        refine lv_istore (lv' := [(10, .int u117), (9, .int (s1 ||| s0)), (0, .ref ad), (1, .int x1), (2, .int x2), (3, .int x3), (4, .int x4), (5, .int x5), (7, .int x7), (8, .int x8), (11, .int x11)]) hx hb dL_hangs_911 hl (by decide) rfl (fun ls hl => ?_)
        refine lv_iload hx hb dL_hangs_913 (lv_at hl 9 rfl) ?_
        refine lv_iload hx hb dL_hangs_915 (lv_at hl 0 rfl) ?_
        refine lv_iadd hx hb dL_hangs_917 ?_
        refine lv_istore (lv' := [(8, .int (x8 + u117)), (10, .int u117), (9, .int (s1 ||| s0)), (0, .ref ad), (1, .int x1), (2, .int x2), (3, .int x3), (4, .int x4), (5, .int x5), (7, .int x7), (11, .int x11)]) hx hb dL_hangs_918 hl (by decide) rfl (fun ls hl => ?_)
        refine lv_iinc (v := x11 + 1) (lv' := [(11, .int (x11 + 1)), (8, .int (x8 + u117)), (10, .int u117), (9, .int (s1 ||| s0)), (0, .ref ad), (1, .int x1), (2, .int x2), (3, .int x3), (4, .int x4), (5, .int x5), (7, .int x7)]) hx hb dL_hangs_920 hl (k := 10) rfl rfl (by decide) rfl (fun ls hl => ?_)
        refine lv_goto (tgt := 803) hx hb dL_hangs_923 (by decide) ?_
        exact ih.2.2.2.2.2.2.2.2.2.2.2.2.2.2.2.2.1 x1 x2 x3 x4 x5 x7 (x8 + u117) (s1 ||| s0) u117 (x11 + 1) ws H locs hf hJ hP hD hS ls (lv_sub hl [4, 5, 6, 7, 8, 9, 10, 1, 3, 2, 0] rfl)
      · intro x1 x2 x3 x4 x5 x7 x8 ws H locs hf hJ hP hD hS ls hl
        replace hf : bL_hangs_20 aM aL aC aW aA aT aO aS aG vsh vcs vwo (rL_hangs aM aL aC aW aA aT aO aS aG vsh vcs vwo fu) x1 x2 x3 x4 x5 0 x7 x8 0 0 0 0 0 0 0 0 0 = some res := hf
        unfold bL_hangs_20 at hf
        refine lv_aload_n hx hb dL_hangs_926 rfl (lv_at hl 0 rfl) ?_
        refine lv_iconst (v := 0) hx hb dL_hangs_927 (by decide) ?_
        obtain ⟨u118, hu118, hf⟩ := pf_b hf
        refine (haS (0 : Int32) _ _ hu118 hJ).call 2 hE ⟨hx, hb, hml, hown, hts⟩ gL_hangs_L_stopped rfl (by decide) (by decide +kernel) ⟨Nat.le_of_ble_eq_true rfl, Nat.le_of_ble_eq_true rfl⟩ hP hD hS hA hK rfl hl.1 rfl (lv_room (Nat.le_of_ble_eq_true rfl)) dL_hangs_928 ⟨Nat.le_refl _, Nat.le_refl _⟩ (fun k9 ws H locs h9 hP hD hS => ?_)
        obtain ⟨rfl, hJ⟩ := h9
        refine lv_istore (lv' := [(11, .int u118), (0, .ref ad), (1, .int x1), (2, .int x2), (3, .int x3), (4, .int x4), (5, .int x5), (7, .int x7), (8, .int x8)]) hx hb dL_hangs_931 hl (by decide) rfl (fun ls hl => ?_)
        refine lv_aload_n hx hb dL_hangs_933 rfl (lv_at hl 1 rfl) ?_
        refine lv_iconst (v := 1) hx hb dL_hangs_934 (by decide) ?_
        obtain ⟨u119, hu119, hf⟩ := pf_b hf
        refine (haS (1 : Int32) _ _ hu119 hJ).call 2 hE ⟨hx, hb, hml, hown, hts⟩ gL_hangs_L_stopped rfl (by decide) (by decide +kernel) ⟨Nat.le_of_ble_eq_true rfl, Nat.le_of_ble_eq_true rfl⟩ hP hD hS hA hK rfl hl.1 rfl (lv_room (Nat.le_of_ble_eq_true rfl)) dL_hangs_935 ⟨Nat.le_refl _, Nat.le_refl _⟩ (fun k9 ws H locs h9 hP hD hS => ?_)
        obtain ⟨rfl, hJ⟩ := h9
        refine lv_istore (lv' := [(12, .int u119), (11, .int u118), (0, .ref ad), (1, .int x1), (2, .int x2), (3, .int x3), (4, .int x4), (5, .int x5), (7, .int x7), (8, .int x8)]) hx hb dL_hangs_938 hl (by decide) rfl (fun ls hl => ?_)
        refine lv_aload_n hx hb dL_hangs_940 rfl (lv_at hl 2 rfl) ?_
        refine lv_iconst (v := 1) hx hb dL_hangs_941 (by decide) ?_
        obtain ⟨u120, hu120, hf⟩ := pf_b hf
        refine (haC (1 : Int32) _ _ hu120 hJ).call 2 hE ⟨hx, hb, hml, hown, hts⟩ gL_hangs_L_count rfl (by decide) (by decide +kernel) ⟨Nat.le_of_ble_eq_true rfl, Nat.le_of_ble_eq_true rfl⟩ hP hD hS hA hK rfl hl.1 rfl (lv_room (Nat.le_of_ble_eq_true rfl)) dL_hangs_942 ⟨Nat.le_refl _, Nat.le_refl _⟩ (fun k9 ws H locs h9 hP hD hS => ?_)
        obtain ⟨rfl, hJ⟩ := h9
        refine lv_istore (lv' := [(13, .int u120), (12, .int u119), (11, .int u118), (0, .ref ad), (1, .int x1), (2, .int x2), (3, .int x3), (4, .int x4), (5, .int x5), (7, .int x7), (8, .int x8)]) hx hb dL_hangs_945 hl (by decide) rfl (fun ls hl => ?_)
        refine lv_iload hx hb dL_hangs_947 (lv_at hl 7 rfl) ?_
        refine lv_if_eq (tgt := 1172) hx hb dL_hangs_949 (by decide) (fun c121 => ?_) (fun c121 => ?_)
        · have hf := pf_t hf c121
          refine lv_iconst (v := 0) hx hb dL_hangs_1172 (by decide) ?_
          obtain rfl := Option.some.inj hf
          exact mEndQ_z (S := va_W) ws hx hb hr rfl hlocks hP hK hD hS ⟨rfl, hJ⟩ rfl (Nat.le_refl _) (Nat.le_refl _) dL_hangs_1173
        · have hf := pf_f hf c121
          refine lv_iload_n hx hb dL_hangs_952 rfl (lv_at hl 4 rfl) ?_
          refine lv_aload_n hx hb dL_hangs_953 rfl (lv_at hl 3 rfl) ?_
          refine lv_iconst (v := 4) hx hb dL_hangs_954 (by decide) ?_
          obtain ⟨u122, hu122, hf⟩ := pf_b hf
          refine (haC (4 : Int32) _ _ hu122 hJ).call 2 hE ⟨hx, hb, hml, hown, hts⟩ gL_hangs_L_count rfl (by decide) (by decide +kernel) ⟨Nat.le_of_ble_eq_true rfl, Nat.le_of_ble_eq_true rfl⟩ hP hD hS hA hK rfl hl.1 rfl (lv_room (Nat.le_of_ble_eq_true rfl)) dL_hangs_955 ⟨Nat.le_refl _, Nat.le_refl _⟩ (fun k9 ws H locs h9 hP hD hS => ?_)
          obtain ⟨rfl, hJ⟩ := h9
          refine lv_icmp_ne (tgt := 1172) hx hb dL_hangs_958 (by decide) (fun c123 => ?_) (fun c123 => ?_)
          · have hf := pf_f hf c123
            refine lv_iconst (v := 0) hx hb dL_hangs_1172 (by decide) ?_
            obtain rfl := Option.some.inj hf
            exact mEndQ_z (S := va_W) ws hx hb hr rfl hlocks hP hK hD hS ⟨rfl, hJ⟩ rfl (Nat.le_refl _) (Nat.le_refl _) dL_hangs_1173
          · have hf := pf_t hf c123
            refine lv_iload_n hx hb dL_hangs_961 rfl (lv_at hl 5 rfl) ?_
            refine lv_aload_n hx hb dL_hangs_962 rfl (lv_at hl 3 rfl) ?_
            refine lv_iconst (v := 5) hx hb dL_hangs_963 (by decide) ?_
            obtain ⟨u124, hu124, hf⟩ := pf_b hf
            refine (haC (5 : Int32) _ _ hu124 hJ).call 2 hE ⟨hx, hb, hml, hown, hts⟩ gL_hangs_L_count rfl (by decide) (by decide +kernel) ⟨Nat.le_of_ble_eq_true rfl, Nat.le_of_ble_eq_true rfl⟩ hP hD hS hA hK rfl hl.1 rfl (lv_room (Nat.le_of_ble_eq_true rfl)) dL_hangs_964 ⟨Nat.le_refl _, Nat.le_refl _⟩ (fun k9 ws H locs h9 hP hD hS => ?_)
            obtain ⟨rfl, hJ⟩ := h9
            refine lv_icmp_ne (tgt := 1172) hx hb dL_hangs_967 (by decide) (fun c125 => ?_) (fun c125 => ?_)
            · have hf := pf_f hf c125
              refine lv_iconst (v := 0) hx hb dL_hangs_1172 (by decide) ?_
              obtain rfl := Option.some.inj hf
              exact mEndQ_z (S := va_W) ws hx hb hr rfl hlocks hP hK hD hS ⟨rfl, hJ⟩ rfl (Nat.le_refl _) (Nat.le_refl _) dL_hangs_1173
            · have hf := pf_t hf c125
              refine lv_iload_n hx hb dL_hangs_970 rfl (lv_at hl 6 rfl) ?_
              refine lv_aload_n hx hb dL_hangs_971 rfl (lv_at hl 3 rfl) ?_
              refine lv_iconst (v := 3) hx hb dL_hangs_972 (by decide) ?_
              obtain ⟨u126, hu126, hf⟩ := pf_b hf
              refine (haC (3 : Int32) _ _ hu126 hJ).call 2 hE ⟨hx, hb, hml, hown, hts⟩ gL_hangs_L_count rfl (by decide) (by decide +kernel) ⟨Nat.le_of_ble_eq_true rfl, Nat.le_of_ble_eq_true rfl⟩ hP hD hS hA hK rfl hl.1 rfl (lv_room (Nat.le_of_ble_eq_true rfl)) dL_hangs_973 ⟨Nat.le_refl _, Nat.le_refl _⟩ (fun k9 ws H locs h9 hP hD hS => ?_)
              obtain ⟨rfl, hJ⟩ := h9
              refine lv_icmp_ne (tgt := 1172) hx hb dL_hangs_976 (by decide) (fun c127 => ?_) (fun c127 => ?_)
              · have hf := pf_f hf c127
                refine lv_iconst (v := 0) hx hb dL_hangs_1172 (by decide) ?_
                obtain rfl := Option.some.inj hf
                exact mEndQ_z (S := va_W) ws hx hb hr rfl hlocks hP hK hD hS ⟨rfl, hJ⟩ rfl (Nat.le_refl _) (Nat.le_refl _) dL_hangs_1173
              · have hf := pf_t hf c127
                refine lv_iload hx hb dL_hangs_979 (lv_at hl 10 rfl) ?_
                refine lv_bipush (v := 12) hx hb dL_hangs_981 (by decide) ?_
                refine lv_iload_n hx hb dL_hangs_983 rfl (lv_at hl 6 rfl) ?_
                refine lv_imul hx hb dL_hangs_984 ?_
                refine lv_icmp_gt (tgt := 1172) hx hb dL_hangs_985 (by decide) (fun c128 => ?_) (fun c128 => ?_)
                · have hf := pf_t hf c128
                  refine lv_iconst (v := 0) hx hb dL_hangs_1172 (by decide) ?_
                  obtain rfl := Option.some.inj hf
                  exact mEndQ_z (S := va_W) ws hx hb hr rfl hlocks hP hK hD hS ⟨rfl, hJ⟩ rfl (Nat.le_refl _) (Nat.le_refl _) dL_hangs_1173
                · have hf := pf_f hf c128
                  refine lv_iload hx hb dL_hangs_988 (lv_at hl 8 rfl) ?_
                  refine lv_if_lt (tgt := 1172) hx hb dL_hangs_990 (by decide) (fun c129 => ?_) (fun c129 => ?_)
                  · have hf := pf_t hf c129
                    refine lv_iconst (v := 0) hx hb dL_hangs_1172 (by decide) ?_
                    obtain rfl := Option.some.inj hf
                    exact mEndQ_z (S := va_W) ws hx hb hr rfl hlocks hP hK hD hS ⟨rfl, hJ⟩ rfl (Nat.le_refl _) (Nat.le_refl _) dL_hangs_1173
                  · have hf := pf_f hf c129
                    refine lv_iload hx hb dL_hangs_993 (lv_at hl 8 rfl) ?_
                    refine lv_bipush (v := 8) hx hb dL_hangs_995 (by decide) ?_
                    refine lv_icmp_gt (tgt := 1172) hx hb dL_hangs_997 (by decide) (fun c130 => ?_) (fun c130 => ?_)
                    · have hf := pf_t hf c130
                      refine lv_iconst (v := 0) hx hb dL_hangs_1172 (by decide) ?_
                      obtain rfl := Option.some.inj hf
                      exact mEndQ_z (S := va_W) ws hx hb hr rfl hlocks hP hK hD hS ⟨rfl, hJ⟩ rfl (Nat.le_refl _) (Nat.le_refl _) dL_hangs_1173
                    · have hf := pf_f hf c130
                      refine lv_aload_n hx hb dL_hangs_1000 rfl (lv_at hl 3 rfl) ?_
                      refine lv_iload hx hb dL_hangs_1001 (lv_at hl 8 rfl) ?_
                      refine lv_iconst (v := 0) hx hb dL_hangs_1003 (by decide) ?_
                      obtain ⟨u131, hu131, hf⟩ := pf_b hf
                      refine (haW x5 (0 : Int32) _ _ hu131 hJ).call 3 hE ⟨hx, hb, hml, hown, hts⟩ gL_hangs_L_waits rfl (by decide) (by decide +kernel) ⟨Nat.le_of_ble_eq_true rfl, Nat.le_of_ble_eq_true rfl⟩ hP hD hS hA hK rfl hl.1 rfl (lv_room (Nat.le_of_ble_eq_true rfl)) dL_hangs_1004 ⟨Nat.le_refl _, Nat.le_refl _⟩ (fun k9 ws H locs h9 hP hD hS => ?_)
                      obtain ⟨rfl, hJ⟩ := h9
                      refine lv_iconst (v := (-1)) hx hb dL_hangs_1007 (by decide) ?_
                      refine lv_icmp_ne (tgt := 1172) hx hb dL_hangs_1008 (by decide) (fun c132 => ?_) (fun c132 => ?_)
                      · have hf := pf_f hf c132
                        refine lv_iconst (v := 0) hx hb dL_hangs_1172 (by decide) ?_
                        obtain rfl := Option.some.inj hf
                        exact mEndQ_z (S := va_W) ws hx hb hr rfl hlocks hP hK hD hS ⟨rfl, hJ⟩ rfl (Nat.le_refl _) (Nat.le_refl _) dL_hangs_1173
                      · have hf := pf_t hf c132
                        refine lv_iload hx hb dL_hangs_1011 (lv_at hl 9 rfl) ?_
                        refine lv_iload hx hb dL_hangs_1013 (lv_at hl 0 rfl) ?_
                        refine lv_bipush (v := 6) hx hb dL_hangs_1015 (by decide) ?_
                        refine lv_icmp_ge (tgt := 1025) hx hb dL_hangs_1017 (by decide) (fun c133 => ?_) (fun c133 => ?_)
                        · have hf := pf_t hf c133
                          refine lv_bipush (v := 6) hx hb dL_hangs_1025 (by decide) ?_
                          exact ih.2.2.2.2.2.2.2.2.2.2.2.2.2.2.2.2.2.2.2.2.1 x3 x5 u118 u119 u120 (6 : Int32) x7 ws H locs hf hJ hP hD hS ls (lv_sub hl [3, 6, 8, 2, 1, 0] rfl)
                        · have hf := pf_f hf c133
                          refine lv_iload hx hb dL_hangs_1020 (lv_at hl 0 rfl) ?_
                          refine lv_goto (tgt := 1027) hx hb dL_hangs_1022 (by decide) ?_
                          exact ih.2.2.2.2.2.2.2.2.2.2.2.2.2.2.2.2.2.2.2.2.1 x3 x5 u118 u119 u120 u120 x7 ws H locs hf hJ hP hD hS ls (lv_sub hl [3, 6, 8, 2, 1, 0] rfl)
      · intro x3 x5 x11 x12 x13 s0 s1 ws H locs hf hJ hP hD hS ls hl
        replace hf : bL_hangs_21 aM aL aC aW aA aT aO aS aG vsh vcs vwo (rL_hangs aM aL aC aW aA aT aO aS aG vsh vcs vwo fu) 0 0 x3 0 x5 0 0 0 0 0 x11 x12 x13 s0 s1 0 0 = some res := hf
        unfold bL_hangs_21 at hf
        refine lv_icmp_ne (tgt := 1172) hx hb dL_hangs_1027 (by decide) (fun c134 => ?_) (fun c134 => ?_)
        · have hf := pf_f hf c134
          refine lv_iconst (v := 0) hx hb dL_hangs_1172 (by decide) ?_
          obtain rfl := Option.some.inj hf
          exact mEndQ_z (S := va_W) ws hx hb hr rfl hlocks hP hK hD hS ⟨rfl, hJ⟩ rfl (Nat.le_refl _) (Nat.le_refl _) dL_hangs_1173
        · have hf := pf_t hf c134
          refine lv_iload_n hx hb dL_hangs_1030 rfl (lv_at hl 1 rfl) ?_
          refine lv_iload hx hb dL_hangs_1031 (lv_at hl 5 rfl) ?_
          refine lv_icmp_gt (tgt := 1172) hx hb dL_hangs_1033 (by decide) (fun c135 => ?_) (fun c135 => ?_)
          · have hf := pf_t hf c135
            refine lv_iconst (v := 0) hx hb dL_hangs_1172 (by decide) ?_
            obtain rfl := Option.some.inj hf
            exact mEndQ_z (S := va_W) ws hx hb hr rfl hlocks hP hK hD hS ⟨rfl, hJ⟩ rfl (Nat.le_refl _) (Nat.le_refl _) dL_hangs_1173
          · have hf := pf_f hf c135
            refine lv_iload hx hb dL_hangs_1036 (lv_at hl 3 rfl) ?_
            refine lv_iconst (v := (-1)) hx hb dL_hangs_1038 (by decide) ?_
            refine lv_icmp_ne (tgt := 1046) hx hb dL_hangs_1039 (by decide) (fun c136 => ?_) (fun c136 => ?_)
            · have hf := pf_f hf c136
              refine lv_iconst (v := 0) hx hb dL_hangs_1046 (by decide) ?_
              exact ih.2.2.2.2.2.2.2.2.2.2.2.2.2.2.2.2.2.2.2.2.2.1 x3 x5 x12 x13 (0 : Int32) ws H locs hf hJ hP hD hS ls (lv_sub hl [0, 1, 2, 4, 5] rfl)
            · have hf := pf_t hf c136
              refine lv_iconst (v := 1) hx hb dL_hangs_1042 (by decide) ?_
              refine lv_goto (tgt := 1047) hx hb dL_hangs_1043 (by decide) ?_
              exact ih.2.2.2.2.2.2.2.2.2.2.2.2.2.2.2.2.2.2.2.2.2.1 x3 x5 x12 x13 (1 : Int32) ws H locs hf hJ hP hD hS ls (lv_sub hl [0, 1, 2, 4, 5] rfl)
      · intro x3 x5 x12 x13 s0 ws H locs hf hJ hP hD hS ls hl
        replace hf : bL_hangs_22 aM aL aC aW aA aT aO aS aG vsh vcs vwo (rL_hangs aM aL aC aW aA aT aO aS aG vsh vcs vwo fu) 0 0 x3 0 x5 0 0 0 0 0 0 x12 x13 s0 0 0 0 = some res := hf
        unfold bL_hangs_22 at hf
        refine lv_iload hx hb dL_hangs_1047 (lv_at hl 3 rfl) ?_
        refine lv_iconst (v := (-1)) hx hb dL_hangs_1049 (by decide) ?_
        refine lv_icmp_ne (tgt := 1057) hx hb dL_hangs_1050 (by decide) (fun c137 => ?_) (fun c137 => ?_)
        · have hf := pf_f hf c137
          refine lv_iconst (v := 0) hx hb dL_hangs_1057 (by decide) ?_
          exact ih.2.2.2.2.2.2.2.2.2.2.2.2.2.2.2.2.2.2.2.2.2.2.1 x3 x5 x12 x13 (0 : Int32) s0 ws H locs hf hJ hP hD hS ls (lv_sub hl [0, 1, 2, 3, 4] rfl)
        · have hf := pf_t hf c137
          refine lv_iconst (v := 1) hx hb dL_hangs_1053 (by decide) ?_
          refine lv_goto (tgt := 1058) hx hb dL_hangs_1054 (by decide) ?_
          exact ih.2.2.2.2.2.2.2.2.2.2.2.2.2.2.2.2.2.2.2.2.2.2.1 x3 x5 x12 x13 (1 : Int32) s0 ws H locs hf hJ hP hD hS ls (lv_sub hl [0, 1, 2, 3, 4] rfl)
      · intro x3 x5 x12 x13 s0 s1 ws H locs hf hJ hP hD hS ls hl
        replace hf : bL_hangs_23 aM aL aC aW aA aT aO aS aG vsh vcs vwo (rL_hangs aM aL aC aW aA aT aO aS aG vsh vcs vwo fu) 0 0 x3 0 x5 0 0 0 0 0 0 x12 x13 s0 s1 0 0 = some res := hf
        unfold bL_hangs_23 at hf
        refine lv_icmp_ne (tgt := 1172) hx hb dL_hangs_1058 (by decide) (fun c138 => ?_) (fun c138 => ?_)
        · have hf := pf_f hf c138
          refine lv_iconst (v := 0) hx hb dL_hangs_1172 (by decide) ?_
          obtain rfl := Option.some.inj hf
          exact mEndQ_z (S := va_W) ws hx hb hr rfl hlocks hP hK hD hS ⟨rfl, hJ⟩ rfl (Nat.le_refl _) (Nat.le_refl _) dL_hangs_1173
        · have hf := pf_t hf c138
          refine lv_iload hx hb dL_hangs_1061 (lv_at hl 3 rfl) ?_
          refine lv_iconst (v := 3) hx hb dL_hangs_1063 (by decide) ?_
          refine lv_icmp_ge (tgt := 1172) hx hb dL_hangs_1064 (by decide) (fun c139 => ?_) (fun c139 => ?_)
          · have hf := pf_t hf c139
            refine lv_iconst (v := 0) hx hb dL_hangs_1172 (by decide) ?_
            obtain rfl := Option.some.inj hf
            exact mEndQ_z (S := va_W) ws hx hb hr rfl hlocks hP hK hD hS ⟨rfl, hJ⟩ rfl (Nat.le_refl _) (Nat.le_refl _) dL_hangs_1173
          · have hf := pf_f hf c139
            refine lv_iload hx hb dL_hangs_1067 (lv_at hl 3 rfl) ?_
            refine lv_if_eq (tgt := 1172) hx hb dL_hangs_1069 (by decide) (fun c140 => ?_) (fun c140 => ?_)
            · have hf := pf_t hf c140
              refine lv_iconst (v := 0) hx hb dL_hangs_1172 (by decide) ?_
              obtain rfl := Option.some.inj hf
              exact mEndQ_z (S := va_W) ws hx hb hr rfl hlocks hP hK hD hS ⟨rfl, hJ⟩ rfl (Nat.le_refl _) (Nat.le_refl _) dL_hangs_1173
            · have hf := pf_f hf c140
              refine lv_aload_n hx hb dL_hangs_1072 rfl (lv_at hl 0 rfl) ?_
              refine (hvsh _ hJ).call hE ⟨hx, hb, hml, hown, hts⟩ (cwV 0 hts gL_hangs_X8_throughShare rfl rfl rfl (by decide +kernel) ⟨Nat.le_of_ble_eq_true rfl, Nat.le_of_ble_eq_true rfl⟩) rfl hP hD hS hA (hK.sub [0] rfl) rfl hl.1 rfl (lv_room (Nat.le_of_ble_eq_true rfl)) dL_hangs_1073 ⟨Nat.le_refl _, Nat.le_refl _⟩ (fun k9 ws H locs h9 hP hD hS => ?_)
              obtain ⟨rfl, hJ⟩ := h9
              refine lv_iload hx hb dL_hangs_1076 (lv_at hl 4 rfl) ?_
              refine lv_if_ne (tgt := 1085) hx hb dL_hangs_1078 (by decide) (fun c141 => ?_) (fun c141 => ?_)
              · have hf := pf_f hf c141
                refine lv_iload hx hb dL_hangs_1085 (lv_at hl 4 rfl) ?_
                refine lv_iload_n hx hb dL_hangs_1087 rfl (lv_at hl 1 rfl) ?_
                refine lv_isub hx hb dL_hangs_1088 ?_
                refine lv_i2d hx hb dL_hangs_1089 ?_
                refine lv_iload hx hb dL_hangs_1090 (lv_at hl 4 rfl) ?_
                refine lv_i2d hx hb dL_hangs_1092 ?_
                obtain ⟨q142, hf⟩ := pf_k hf
                refine lv_ddiv hx hb dL_hangs_1093 (vf_of q142) ?_
                exact ih.2.2.2.2.2.2.2.2.2.2.2.2.2.2.2.2.2.2.2.2.2.2.2 x5 (FP.ddiv (FP.i2d (x13 - x3)) (FP.i2d x13)) vsh ws H locs hf hJ hP hD hS ls (lv_sub hl [0, 2] rfl)
              · have hf := pf_t hf c141
                refine lv_dconst1 hx hb dL_hangs_1081 ?_
                refine lv_goto (tgt := 1094) hx hb dL_hangs_1082 (by decide) ?_
                exact ih.2.2.2.2.2.2.2.2.2.2.2.2.2.2.2.2.2.2.2.2.2.2.2 x5 FP.dconst1 vsh ws H locs hf hJ hP hD hS ls (lv_sub hl [0, 2] rfl)
      · intro x5 q0 q1 ws H locs hf hJ hP hD hS ls hl
        replace hf : bL_hangs_24 aM aL aC aW aA aT aO aS aG vsh vcs vwo (rL_hangs aM aL aC aW aA aT aO aS aG vsh vcs vwo fu) 0 0 0 0 x5 0 0 0 0 0 0 0 0 0 0 q0 q1 = some res := hf
        unfold bL_hangs_24 at hf
        refine lv_dcmp hx hb dL_hangs_1094 ?_
        refine lv_if_ne (tgt := 1172) hx hb dL_hangs_1095 (by decide) (fun c143 => ?_) (fun c143 => ?_)
        · have hf := pf_f hf c143
          refine lv_iconst (v := 0) hx hb dL_hangs_1172 (by decide) ?_
          obtain rfl := Option.some.inj hf
          exact mEndQ_z (S := va_W) ws hx hb hr rfl hlocks hP hK hD hS ⟨rfl, hJ⟩ rfl (Nat.le_refl _) (Nat.le_refl _) dL_hangs_1173
        · have hf := pf_t hf c143
          refine lv_iload hx hb dL_hangs_1098 (lv_at hl 1 rfl) ?_
          refine lv_if_le (tgt := 1143) hx hb dL_hangs_1100 (by decide) (fun c144 => ?_) (fun c144 => ?_)
          · have hf := pf_t hf c144
            refine lv_aload_n hx hb dL_hangs_1143 rfl (lv_at hl 0 rfl) ?_
            refine lv_iconst (v := 3) hx hb dL_hangs_1144 (by decide) ?_
            refine lv_iconst (v := 1) hx hb dL_hangs_1145 (by decide) ?_
            obtain ⟨u145, hu145, hf⟩ := pf_b hf
            refine (haG (3 : Int32) (1 : Int32) _ _ hu145 hJ).call 3 hE ⟨hx, hb, hml, hown, hts⟩ gL_hangs_L_ifGone rfl (by decide) (by decide +kernel) ⟨Nat.le_of_ble_eq_true rfl, Nat.le_of_ble_eq_true rfl⟩ hP hD hS hA hK rfl hl.1 rfl (lv_room (Nat.le_of_ble_eq_true rfl)) dL_hangs_1146 ⟨Nat.le_refl _, Nat.le_refl _⟩ (fun k9 ws H locs h9 hP hD hS => ?_)
            obtain ⟨rfl, hJ⟩ := h9
            refine lv_iconst (v := (-1)) hx hb dL_hangs_1149 (by decide) ?_
            refine lv_icmp_ne (tgt := 1172) hx hb dL_hangs_1150 (by decide) (fun c146 => ?_) (fun c146 => ?_)
            · have hf := pf_f hf c146
              refine lv_iconst (v := 0) hx hb dL_hangs_1172 (by decide) ?_
              obtain rfl := Option.some.inj hf
              exact mEndQ_z (S := va_W) ws hx hb hr rfl hlocks hP hK hD hS ⟨rfl, hJ⟩ rfl (Nat.le_refl _) (Nat.le_refl _) dL_hangs_1173
            · have hf := pf_t hf c146
              refine lv_aload_n hx hb dL_hangs_1153 rfl (lv_at hl 0 rfl) ?_
              refine (hvcs _ hJ).call hE ⟨hx, hb, hml, hown, hts⟩ (cwV 0 hts gL_hangs_X8_costs rfl rfl rfl (by decide +kernel) ⟨Nat.le_of_ble_eq_true rfl, Nat.le_of_ble_eq_true rfl⟩) rfl hP hD hS hA (hK.sub [0] rfl) rfl hl.1 rfl (lv_room (Nat.le_of_ble_eq_true rfl)) dL_hangs_1154 ⟨Nat.le_refl _, Nat.le_refl _⟩ (fun k9 ws H locs h9 hP hD hS => ?_)
              obtain ⟨rfl, hJ⟩ := h9
              refine lv_if_ne (tgt := 1172) hx hb dL_hangs_1157 (by decide) (fun c147 => ?_) (fun c147 => ?_)
              · have hf := pf_f hf c147
                refine lv_iconst (v := 0) hx hb dL_hangs_1172 (by decide) ?_
                obtain rfl := Option.some.inj hf
                exact mEndQ_z (S := va_W) ws hx hb hr rfl hlocks hP hK hD hS ⟨rfl, hJ⟩ rfl (Nat.le_refl _) (Nat.le_refl _) dL_hangs_1173
              · have hf := pf_t hf c147
                refine lv_aload_n hx hb dL_hangs_1160 rfl (lv_at hl 0 rfl) ?_
                refine (hvwo _ hJ).call hE ⟨hx, hb, hml, hown, hts⟩ (cwV 0 hts gL_hangs_X8_worstEar rfl rfl rfl (by decide +kernel) ⟨Nat.le_of_ble_eq_true rfl, Nat.le_of_ble_eq_true rfl⟩) rfl hP hD hS hA (hK.sub [0] rfl) rfl hl.1 rfl (lv_room (Nat.le_of_ble_eq_true rfl)) dL_hangs_1161 ⟨Nat.le_refl _, Nat.le_refl _⟩ (fun k9 ws H locs h9 hP hD hS => ?_)
                obtain ⟨rfl, hJ⟩ := h9
                refine lv_iconst (v := (-1)) hx hb dL_hangs_1164 (by decide) ?_
                refine lv_icmp_ne (tgt := 1172) hx hb dL_hangs_1165 (by decide) (fun c148 => ?_) (fun c148 => ?_)
                · have hf := pf_f hf c148
                  refine lv_iconst (v := 0) hx hb dL_hangs_1172 (by decide) ?_
                  obtain rfl := Option.some.inj hf
                  exact mEndQ_z (S := va_W) ws hx hb hr rfl hlocks hP hK hD hS ⟨rfl, hJ⟩ rfl (Nat.le_refl _) (Nat.le_refl _) dL_hangs_1173
                · have hf := pf_t hf c148
                  refine lv_iconst (v := 1) hx hb dL_hangs_1168 (by decide) ?_
                  refine lv_goto (tgt := 1173) hx hb dL_hangs_1169 (by decide) ?_
                  obtain rfl := Option.some.inj hf
                  exact mEndQ_z (S := va_W) ws hx hb hr rfl hlocks hP hK hD hS ⟨rfl, hJ⟩ rfl (Nat.le_refl _) (Nat.le_refl _) dL_hangs_1173
          · have hf := pf_f hf c144
            refine lv_aload_n hx hb dL_hangs_1103 rfl (lv_at hl 0 rfl) ?_
            refine lv_iconst (v := 5) hx hb dL_hangs_1104 (by decide) ?_
            refine lv_iconst (v := 0) hx hb dL_hangs_1105 (by decide) ?_
            obtain ⟨u149, hu149, hf⟩ := pf_b hf
            refine (haG (5 : Int32) (0 : Int32) _ _ hu149 hJ).call 3 hE ⟨hx, hb, hml, hown, hts⟩ gL_hangs_L_ifGone rfl (by decide) (by decide +kernel) ⟨Nat.le_of_ble_eq_true rfl, Nat.le_of_ble_eq_true rfl⟩ hP hD hS hA hK rfl hl.1 rfl (lv_room (Nat.le_of_ble_eq_true rfl)) dL_hangs_1106 ⟨Nat.le_refl _, Nat.le_refl _⟩ (fun k9 ws H locs h9 hP hD hS => ?_)
            obtain ⟨rfl, hJ⟩ := h9
            refine lv_if_lt (tgt := 1172) hx hb dL_hangs_1109 (by decide) (fun c150 => ?_) (fun c150 => ?_)
            · have hf := pf_t hf c150
              refine lv_iconst (v := 0) hx hb dL_hangs_1172 (by decide) ?_
              obtain rfl := Option.some.inj hf
              exact mEndQ_z (S := va_W) ws hx hb hr rfl hlocks hP hK hD hS ⟨rfl, hJ⟩ rfl (Nat.le_refl _) (Nat.le_refl _) dL_hangs_1173
            · have hf := pf_f hf c150
              refine lv_aload_n hx hb dL_hangs_1112 rfl (lv_at hl 0 rfl) ?_
              refine lv_iconst (v := 5) hx hb dL_hangs_1113 (by decide) ?_
              refine lv_iconst (v := 0) hx hb dL_hangs_1114 (by decide) ?_
              obtain ⟨u151, hu151, hf⟩ := pf_b hf
              refine (haG (5 : Int32) (0 : Int32) _ _ hu151 hJ).call 3 hE ⟨hx, hb, hml, hown, hts⟩ gL_hangs_L_ifGone rfl (by decide) (by decide +kernel) ⟨Nat.le_of_ble_eq_true rfl, Nat.le_of_ble_eq_true rfl⟩ hP hD hS hA hK rfl hl.1 rfl (lv_room (Nat.le_of_ble_eq_true rfl)) dL_hangs_1115 ⟨Nat.le_refl _, Nat.le_refl _⟩ (fun k9 ws H locs h9 hP hD hS => ?_)
              obtain ⟨rfl, hJ⟩ := h9
              refine lv_aload_n hx hb dL_hangs_1118 rfl (lv_at hl 0 rfl) ?_
              refine lv_iconst (v := 0) hx hb dL_hangs_1119 (by decide) ?_
              refine lv_iconst (v := 0) hx hb dL_hangs_1120 (by decide) ?_
              obtain ⟨u152, hu152, hf⟩ := pf_b hf
              refine (haW (0 : Int32) (0 : Int32) _ _ hu152 hJ).call 3 hE ⟨hx, hb, hml, hown, hts⟩ gL_hangs_L_waits rfl (by decide) (by decide +kernel) ⟨Nat.le_of_ble_eq_true rfl, Nat.le_of_ble_eq_true rfl⟩ hP hD hS hA hK rfl hl.1 rfl (lv_room (Nat.le_of_ble_eq_true rfl)) dL_hangs_1121 ⟨Nat.le_refl _, Nat.le_refl _⟩ (fun k9 ws H locs h9 hP hD hS => ?_)
              obtain ⟨rfl, hJ⟩ := h9
              refine lv_icmp_gt (tgt := 1172) hx hb dL_hangs_1124 (by decide) (fun c153 => ?_) (fun c153 => ?_)
              · have hf := pf_t hf c153
                refine lv_iconst (v := 0) hx hb dL_hangs_1172 (by decide) ?_
                obtain rfl := Option.some.inj hf
                exact mEndQ_z (S := va_W) ws hx hb hr rfl hlocks hP hK hD hS ⟨rfl, hJ⟩ rfl (Nat.le_refl _) (Nat.le_refl _) dL_hangs_1173
              · have hf := pf_f hf c153
                refine lv_aload_n hx hb dL_hangs_1127 rfl (lv_at hl 0 rfl) ?_
                refine (hvcs _ hJ).call hE ⟨hx, hb, hml, hown, hts⟩ (cwV 0 hts gL_hangs_X8_costs rfl rfl rfl (by decide +kernel) ⟨Nat.le_of_ble_eq_true rfl, Nat.le_of_ble_eq_true rfl⟩) rfl hP hD hS hA (hK.sub [0] rfl) rfl hl.1 rfl (lv_room (Nat.le_of_ble_eq_true rfl)) dL_hangs_1128 ⟨Nat.le_refl _, Nat.le_refl _⟩ (fun k9 ws H locs h9 hP hD hS => ?_)
                obtain ⟨rfl, hJ⟩ := h9
                refine lv_aload_n hx hb dL_hangs_1131 rfl (lv_at hl 0 rfl) ?_
                refine lv_iconst (v := 0) hx hb dL_hangs_1132 (by decide) ?_
                refine lv_iconst (v := 2) hx hb dL_hangs_1133 (by decide) ?_
                obtain ⟨u154, hu154, hf⟩ := pf_b hf
                refine (haG (0 : Int32) (2 : Int32) _ _ hu154 hJ).call 3 hE ⟨hx, hb, hml, hown, hts⟩ gL_hangs_L_ifGone rfl (by decide) (by decide +kernel) ⟨Nat.le_of_ble_eq_true rfl, Nat.le_of_ble_eq_true rfl⟩ hP hD hS hA hK rfl hl.1 rfl (lv_room (Nat.le_of_ble_eq_true rfl)) dL_hangs_1134 ⟨Nat.le_refl _, Nat.le_refl _⟩ (fun k9 ws H locs h9 hP hD hS => ?_)
                obtain ⟨rfl, hJ⟩ := h9
                refine lv_icmp_lt (tgt := 1172) hx hb dL_hangs_1137 (by decide) (fun c155 => ?_) (fun c155 => ?_)
                · have hf := pf_t hf c155
                  refine lv_iconst (v := 0) hx hb dL_hangs_1172 (by decide) ?_
                  obtain rfl := Option.some.inj hf
                  exact mEndQ_z (S := va_W) ws hx hb hr rfl hlocks hP hK hD hS ⟨rfl, hJ⟩ rfl (Nat.le_refl _) (Nat.le_refl _) dL_hangs_1173
                · have hf := pf_f hf c155
                  refine lv_goto (tgt := 1168) hx hb dL_hangs_1140 (by decide) ?_
                  refine lv_iconst (v := 1) hx hb dL_hangs_1168 (by decide) ?_
                  refine lv_goto (tgt := 1173) hx hb dL_hangs_1169 (by decide) ?_
                  obtain rfl := Option.some.inj hf
                  exact mEndQ_z (S := va_W) ws hx hb hr rfl hlocks hP hK hD hS ⟨rfl, hJ⟩ rfl (Nat.le_refl _) (Nat.le_refl _) dL_hangs_1173
  unfold fL_hangs eL_hangs at hf
  obtain ⟨H, hH⟩ : ∃ H : Heap, H = s.heap := ⟨_, rfl⟩
  obtain ⟨locs, hlc⟩ : ∃ z : List Loc, z = [] := ⟨_, rfl⟩
  rw [← hlc, ← hH]
  obtain ⟨ws, hws⟩ : ∃ w : va_W, w = wc := ⟨_, rfl⟩
  have hJ : J ws := by rw [hws]; exact hJ0
  have hD : va_D A ws := by rw [hws]; exact hD
  have hP : va_P G vwCl ws H := by rw [hws, hH]; exact hP
  have hS : va_S A s.heap H locs := by rw [hlc, hH]; exact hS
  refine lv_iconst (v := 0) hx hb dL_hangs_0 (by decide) ?_
  refine lv_istore_n (lv' := [(1, .int 0), (0, .ref ad)]) hx hb dL_hangs_1 rfl hl (by decide) rfl (fun ls hl => ?_)
  refine lv_iconst (v := 0) hx hb dL_hangs_2 (by decide) ?_
  refine lv_istore_n (lv' := [(2, .int 0), (1, .int 0), (0, .ref ad)]) hx hb dL_hangs_3 rfl hl (by decide) rfl (fun ls hl => ?_)
  refine lv_iconst (v := 0) hx hb dL_hangs_4 (by decide) ?_
  refine lv_istore_n (lv' := [(3, .int 0), (2, .int 0), (1, .int 0), (0, .ref ad)]) hx hb dL_hangs_5 rfl hl (by decide) rfl (fun ls hl => ?_)
  refine lv_iconst (v := 1) hx hb dL_hangs_6 (by decide) ?_
  refine lv_istore (lv' := [(4, .int 1), (3, .int 0), (2, .int 0), (1, .int 0), (0, .ref ad)]) hx hb dL_hangs_7 hl (by decide) rfl (fun ls hl => ?_)
  refine lv_iconst (v := 0) hx hb dL_hangs_9 (by decide) ?_
  refine lv_istore (lv' := [(5, .int 0), (4, .int 1), (3, .int 0), (2, .int 0), (1, .int 0), (0, .ref ad)]) hx hb dL_hangs_10 hl (by decide) rfl (fun ls hl => ?_)
  exact (key fuelN).1 (0 : Int32) (0 : Int32) (0 : Int32) (1 : Int32) (0 : Int32) ws H locs hf hJ hP hD hS ls (lv_sub hl [5, 4, 3, 2, 1, 0] rfl)
