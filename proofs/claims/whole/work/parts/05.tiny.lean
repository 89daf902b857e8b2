/-! THE TINY MACHINE: values with numbered cells, one function that runs a method's bytes; what it answers, the machine does (part 07) -/
/-- a cell: an array (its kind: 0 int, 1 byte, 2 long, 3 Sayer, 4 Sheet; length; what it holds), or an object (its class, its fields) -/
abbrev TC : Type := (Nat × vp_A) ⊕ (Nat × (Nat → TV))
/-- cells by their numbers, how many, how many slots were made -/
abbrev TH : Type := (Nat → Option TC) × Nat × Nat
def tlk2 {α : Type} (l : List (Nat × Nat × α)) (o k : Nat) : Option α := (l.find? (fun e => Nat.beq e.1 o && Nat.beq e.2.1 k)).map (fun e => e.2.2)
def tlk {α : Type} (l : List (Nat × α)) (k : Nat) : Option α := (l.find? (fun e => Nat.beq e.1 k)).map (fun e => e.2)
/-- a long's first half goes when its second is written over -/
def tclr : TV → TV
  | .inr (.inl _) => vU
  | v => v
def tclk (ls : List TV) (k : Nat) : List TV := match k with
  | 0 => ls
  | j + 1 => ls.modify j tclr
def tsto (ls : List TV) (k : Nat) (v : TV) : List TV := (tclk ls k).set k v
def tst1 (ls st : List TV) (k : Nat) : Option (List TV × List TV) := match st with
  | .inl x :: r => if k < ls.length then some (tsto ls k (vI x), r) else none
  | _ => none
def tstA (ls st : List TV) (k : Nat) : Option (List TV × List TV) := match st with
  | .inr (.inr (.inl x)) :: r => if k < ls.length then some (tsto ls k (vR x), r) else none
  | _ => none
def tst2 (ls st : List TV) (k : Nat) : Option (List TV × List TV) := match st with
  | .inr (.inl x) :: r => if k + 1 < ls.length then some ((tsto ls k (vL x)).set (k + 1) vU, r) else none
  | _ => none
def tldI (ls st : List TV) (k : Nat) : Option (List TV × List TV) := match ls[k]? with
  | some (.inl x) => some (ls, vI x :: st)
  | _ => none
def tldL (ls st : List TV) (k : Nat) : Option (List TV × List TV) := match ls[k]? with
  | some (.inr (.inl x)) => some (ls, vL x :: st)
  | _ => none
def tldA (ls st : List TV) (k : Nat) : Option (List TV × List TV) := match ls[k]? with
  | some (.inr (.inr (.inl x))) => some (ls, vR x :: st)
  | _ => none
def tI2 (ls st : List TV) (f : Int32 → Int32 → Int32) : Option (List TV × List TV) := match st with
  | .inl b :: .inl a :: r => some (ls, vI (f a b) :: r)
  | _ => none
def tD2 (ls st : List TV) (f : Int32 → Int32 → Int32) : Option (List TV × List TV) := match st with
  | .inl b :: .inl a :: r => if b = 0 then none else some (ls, vI (f a b) :: r)
  | _ => none
def tL2 (ls st : List TV) (f : Int64 → Int64 → Int64) : Option (List TV × List TV) := match st with
  | .inr (.inl b) :: .inr (.inl a) :: r => some (ls, vL (f a b) :: r)
  | _ => none
def tE2 (ls st : List TV) (f : Int64 → Int64 → Int64) : Option (List TV × List TV) := match st with
  | .inr (.inl b) :: .inr (.inl a) :: r => if b = 0 then none else some (ls, vL (f a b) :: r)
  | _ => none
def tS2 (ls st : List TV) (f : Int64 → Int32 → Int64) : Option (List TV × List TV) := match st with
  | .inl b :: .inr (.inl a) :: r => some (ls, vL (f a b) :: r)
  | _ => none
def tI1 (ls st : List TV) (f : Int32 → TV) : Option (List TV × List TV) := match st with
  | .inl a :: r => some (ls, f a :: r)
  | _ => none
def tL1 (ls st : List TV) (f : Int64 → TV) : Option (List TV × List TV) := match st with
  | .inr (.inl a) :: r => some (ls, f a :: r)
  | _ => none
def tis1 : TV → Bool
  | .inl _ => true
  | .inr (.inr (.inl _)) => true
  | _ => false
def tdup (ls st : List TV) : Option (List TV × List TV) := match st with
  | v :: r => if tis1 v = true then some (ls, v :: v :: r) else none
  | _ => none
def tdup2 (ls st : List TV) : Option (List TV × List TV) := match st with
  | v :: w :: r => if tis1 v = true ∧ tis1 w = true then some (ls, v :: w :: v :: w :: r) else none
  | _ => none
def tpop (ls st : List TV) : Option (List TV × List TV) := match st with
  | v :: r => if tis1 v = true then some (ls, r) else none
  | _ => none
def tinc (ls st : List TV) (k : Nat) (c : Int) : Option (List TV × List TV) := match ls[k]? with
  | some (.inl x) => some (tsto ls k (vI (x + Int32.ofInt c)), st)
  | _ => none
def tlcmp (ls st : List TV) : Option (List TV × List TV) := match st with
  | .inr (.inl b) :: .inr (.inl a) :: r => some (ls, vI (lg_cmp a b) :: r)
  | _ => none
/-- what touches locals and stack alone, and goes on behind itself -/
def tpure (m : Nat) (i : Instr) (len : Nat) (ls st : List TV) : Option (List TV × List TV) := match i with
  | .iload_n k => if len = 1 then tldI ls st k.val else none
  | .iload k => if len = 2 then tldI ls st k else none
  | .lload_n k => if len = 1 then tldL ls st k.val else none
  | .lload k => if len = 2 then tldL ls st k else none
  | .aload_n k => if len = 1 then tldA ls st k.val else none
  | .aload k => if len = 2 then tldA ls st k else none
  | .istore_n k => if len = 1 then tst1 ls st k.val else none
  | .istore k => if len = 2 then tst1 ls st k else none
  | .lstore_n k => if len = 1 then tst2 ls st k.val else none
  | .lstore k => if len = 2 then tst2 ls st k else none
  | .astore_n k => if len = 1 then tstA ls st k.val else none
  | .astore k => if len = 2 then tstA ls st k else none
  | .iinc k c => if len = 3 then tinc ls st k c else none
  | .iconst n => if len = 1 then some (ls, vI (Int32.ofInt n) :: st) else none
  | .bipush n => if len = 2 then some (ls, vI (Int8.ofInt n).toInt32 :: st) else none
  | .sipush n => if len = 3 then some (ls, vI (Int16.ofInt n).toInt32 :: st) else none
  | .lconst n => if len = 1 then some (ls, vL (Int64.ofNat n.val) :: st) else none
  | .aconst_null => if len = 1 then some (ls, vR none :: st) else none
  | .ldc k => if len = 2 then (match tlk2 kNT (mO m) k with
    | some (.inl x) => some (ls, vI x :: st)
    | some (.inr (.inr (.inl (some q)))) => some (ls, vR (some q) :: st)
    | _ => none) else none
  | .ldc_w k => if len = 3 then (match tlk2 kNT (mO m) k with
    | some (.inl x) => some (ls, vI x :: st)
    | _ => none) else none
  | .ldc2_w k => if len = 3 then (match tlk2 kNT (mO m) k with
    | some (.inr (.inl x)) => some (ls, vL x :: st)
    | _ => none) else none
  | .iadd => if len = 1 then tI2 ls st (fun a b => a + b) else none
  | .isub => if len = 1 then tI2 ls st (fun a b => a - b) else none
  | .imul => if len = 1 then tI2 ls st (fun a b => a * b) else none
  | .iand => if len = 1 then tI2 ls st (fun a b => a &&& b) else none
  | .ior => if len = 1 then tI2 ls st (fun a b => a ||| b) else none
  | .ixor => if len = 1 then tI2 ls st (fun a b => a ^^^ b) else none
  | .ishl => if len = 1 then tI2 ls st (fun a b => a <<< (b &&& 31)) else none
  | .ishr => if len = 1 then tI2 ls st (fun a b => a >>> (b &&& 31)) else none
  | .iushr => if len = 1 then tI2 ls st (fun a b => (a.toUInt32 >>> (b.toUInt32 &&& Int32.toUInt32 31)).toInt32) else none
  | .idiv => if len = 1 then tD2 ls st (fun a b => a / b) else none
  | .irem => if len = 1 then tD2 ls st (fun a b => a - a / b * b) else none
  | .ineg => if len = 1 then tI1 ls st (fun a => vI (-a)) else none
  | .i2l => if len = 1 then tI1 ls st (fun a => vL a.toInt64) else none
  | .i2b => if len = 1 then tI1 ls st (fun a => vI a.toInt8.toInt32) else none
  | .i2s => if len = 1 then tI1 ls st (fun a => vI a.toInt16.toInt32) else none
  | .l2i => if len = 1 then tL1 ls st (fun a => vI a.toInt32) else none
  | .lneg => if len = 1 then tL1 ls st (fun a => vL (-a)) else none
  | .ladd => if len = 1 then tL2 ls st (fun a b => a + b) else none
  | .lsub => if len = 1 then tL2 ls st (fun a b => a - b) else none
  | .lmul => if len = 1 then tL2 ls st (fun a b => a * b) else none
  | .land => if len = 1 then tL2 ls st (fun a b => a &&& b) else none
  | .lor => if len = 1 then tL2 ls st (fun a b => a ||| b) else none
  | .ldiv => if len = 1 then tE2 ls st (fun a b => a / b) else none
  | .lrem => if len = 1 then tE2 ls st (fun a b => a - a / b * b) else none
  | .lshl => if len = 1 then tS2 ls st (fun a b => a <<< (b.toInt64 &&& 63)) else none
  | .lshr => if len = 1 then tS2 ls st (fun a b => a >>> (b.toInt64 &&& 63)) else none
  | .lushr => if len = 1 then tS2 ls st (fun a b => (a.toUInt64 >>> (b.toInt64.toUInt64 &&& Int64.toUInt64 63)).toInt64) else none
  | .lcmp => if len = 1 then tlcmp ls st else none
  | .dup => if len = 1 then tdup ls st else none
  | .dup2 => if len = 1 then tdup2 ls st else none
  | .pop => if len = 1 then tpop ls st else none
  | _ => none
def ttg (pc : Nat) (off : Int) : Option Nat := if 0 ≤ (pc : Int) + off then some ((pc : Int) + off).toNat else none
def tif1 (st : List TV) (pc : Nat) (off : Int) (c : Int32 → Bool) : Option (Nat × List TV) := match st with
  | .inl x :: r => (ttg pc off).map (fun t => (if c x = true then t else pc + 3, r))
  | _ => none
def tif2 (st : List TV) (pc : Nat) (off : Int) (c : Int32 → Int32 → Bool) : Option (Nat × List TV) := match st with
  | .inl y :: .inl x :: r => (ttg pc off).map (fun t => (if c x y = true then t else pc + 3, r))
  | _ => none
def tifn (st : List TV) (pc : Nat) (off : Int) (c : Option Nat → Bool) : Option (Nat × List TV) := match st with
  | .inr (.inr (.inl x)) :: r => (ttg pc off).map (fun t => (if c x = true then t else pc + 3, r))
  | _ => none
def ttab (st : List TV) (pc : Nat) (dflt lo hi : Int) (offs : Array Int) : Option (Nat × List TV) := match st with
  | .inl x :: r => if x.toInt < lo ∨ hi < x.toInt then (ttg pc dflt).map (fun t => (t, r)) else (match offs[(x.toInt - lo).toNat]? with
    | some off => (ttg pc off).map (fun t => (t, r))
    | none => none)
  | _ => none
def tlok (st : List TV) (pc : Nat) (dflt : Int) (ps : Array (Int × Int)) : Option (Nat × List TV) := match st with
  | .inl x :: r => if (ps.toList.zip (ps.toList.drop 1)).all (fun q => decide (q.1.1 < q.2.1)) = true then (ttg pc (Op.lookupswitch.offset ps.toList dflt x.toInt)).map (fun t => (t, r)) else none
  | _ => none
/-- branches: where to, and the stack -/
def tjump (i : Instr) (pc len : Nat) (st : List TV) : Option (Nat × List TV) := match i with
  | .goto off => if len = 3 then (ttg pc off).map (fun t => (t, st)) else none
  | .ifCond c off => if len = 3 then (match c with
    | .eq => tif1 st pc off (fun x => decide (x = 0))
    | .ne => tif1 st pc off (fun x => decide (¬ x = 0))
    | .lt => tif1 st pc off (fun x => decide (x < 0))
    | .ge => tif1 st pc off (fun x => decide (0 ≤ x))
    | .gt => tif1 st pc off (fun x => decide (0 < x))
    | .le => tif1 st pc off (fun x => decide (x ≤ 0))) else none
  | .if_icmp c off => if len = 3 then (match c with
    | .eq => tif2 st pc off (fun x y => decide (x = y))
    | .ne => tif2 st pc off (fun x y => decide (¬ x = y))
    | .lt => tif2 st pc off (fun x y => decide (x < y))
    | .ge => tif2 st pc off (fun x y => decide (y ≤ x))
    | .gt => tif2 st pc off (fun x y => decide (y < x))
    | .le => tif2 st pc off (fun x y => decide (x ≤ y))) else none
  | .ifnull off => if len = 3 then tifn st pc off (fun r => r.isNone) else none
  | .ifnonnull off => if len = 3 then tifn st pc off (fun r => r.isSome) else none
  | .tableswitch dflt lo hi offs => ttab st pc dflt lo hi offs
  | .lookupswitch dflt ps => tlok st pc dflt ps
  | _ => none
def tmost (k : Nat) : Int32 := if k = 0 then 100 else if k = 1 then 99 else if k = 2 then 99 else 20
def tfirst (k : Nat) : Int32 := if k = 0 then 10 else if k = 1 then 2 else if k = 2 then 1 else 6
/-- an array of ints or bytes: kind, length, contents; the script and the two constant rows stand outside -/
def tai (sc : Nat × (Nat → Int32)) (h : TH) (a : Nat) : Option (Nat × Nat × (Nat → Int32)) := match h.1 a with
  | some (.inl (t, n, .inl f)) => some (t, n, f)
  | some _ => none
  | none => if a = 1000000000 then some (0, sc.1, sc.2) else if a = 1000000002 then some (0, 4, tmost) else none
def tald (sc : Nat × (Nat → Int32)) (h : TH) (t a : Nat) (i : Int32) : Option Int32 := match tai sc h a with
  | some (t', n, f) => if t' = t ∧ ¬ (i < 0 ∨ n ≤ i.toNatClampNeg) then some (f i.toNatClampNeg) else none
  | none => none
def tlen (sc : Nat × (Nat → Int32)) (h : TH) (a : Nat) : Option Int32 := match h.1 a with
  | some (.inl (t, n, _)) => if t < 5 then some (Int32.ofNat n) else none
  | some _ => none
  | none => if a = 1000000000 then some (Int32.ofNat sc.1) else none
def tldl (h : TH) (a : Nat) (i : Int32) : Option Int64 := match h.1 a with
  | some (.inl (2, n, .inr (.inl f))) => if i < 0 ∨ n ≤ i.toNatClampNeg then none else some (f i.toNatClampNeg)
  | _ => none
def tldr (h : TH) (a : Nat) (i : Int32) : Option (Option Nat) := match h.1 a with
  | some (.inl (t, n, .inr (.inr (.inr (.inr f))))) => if (t = 3 ∨ t = 4) ∧ ¬ (i < 0 ∨ n ≤ i.toNatClampNeg) then some (f i.toNatClampNeg) else none
  | _ => none
def tset (h : TH) (a : Nat) (c : TC) : TH := (va_up h.1 a (some c), h.2.1, h.2.2)
def tasi (h : TH) (a : Nat) (i x : Int32) : Option TH := match h.1 a with
  | some (.inl (0, n, .inl f)) => if i < 0 ∨ n ≤ i.toNatClampNeg then none else some (tset h a (.inl (0, n, .inl (upd f i.toNatClampNeg x))))
  | _ => none
def tasb (h : TH) (a : Nat) (i x : Int32) : Option TH := match h.1 a with
  | some (.inl (1, n, .inl f)) => if i < 0 ∨ n ≤ i.toNatClampNeg then none else some (tset h a (.inl (1, n, .inl (upd f i.toNatClampNeg (vp_nar .byte x)))))
  | _ => none
def tasl (h : TH) (a : Nat) (i : Int32) (x : Int64) : Option TH := match h.1 a with
  | some (.inl (2, n, .inr (.inl f))) => if i < 0 ∨ n ≤ i.toNatClampNeg then none else some (tset h a (.inl (2, n, .inr (.inl (vp_updL f i.toNatClampNeg x)))))
  | _ => none
/-- which classes' objects a row of references holds -/
def tfitc (t ci : Nat) : Bool := match t with
  | 3 => [0, 2, 3, 4, 6, 7].contains ci
  | 4 => ci == 5
  | _ => false
def tcl (h : TH) (o : Nat) : Option Nat := match h.1 o with
  | some (.inr (ci, _)) => some ci
  | _ => none
def tasr (h : TH) (a : Nat) (i : Int32) (r : Option Nat) : Option TH := match h.1 a with
  | some (.inl (t, n, .inr (.inr (.inr (.inr f))))) => if (t = 3 ∨ t = 4) ∧ ¬ (i < 0 ∨ n ≤ i.toNatClampNeg) then (match r with
    | none => some (tset h a (.inl (t, n, .inr (.inr (.inr (.inr (va_up f i.toNatClampNeg none)))))))
    | some o => (match tcl h o with
      | some ci => if tfitc t ci = true then some (tset h a (.inl (t, n, .inr (.inr (.inr (.inr (va_up f i.toNatClampNeg (some o)))))))) else none
      | none => none)) else none
  | _ => none
def tget (h : TH) (o : Nat) (cis : List Nat) (k : Nat) : Option TV := match h.1 o with
  | some (.inr (ci, f)) => if cis.contains ci = true then some (f k) else none
  | _ => none
def tkok (kind : Nat) (v : TV) : Bool := match kind, v with
  | 0, .inl _ => true
  | 1, .inl x => decide (x = 0 ∨ x = 1)
  | 2, .inr (.inl _) => true
  | 3, .inr (.inr (.inl _)) => true
  | _, _ => false
def tput (h : TH) (o : Nat) (cis : List Nat) (k kind : Nat) (v : TV) : Option TH := match h.1 o with
  | some (.inr (ci, f)) => if cis.contains ci = true ∧ tkok kind v = true then some (tset h o (.inr (ci, va_up f k v))) else none
  | _ => none
def tnew (h : TH) (c : TC) (n : Nat) : Option TH := if h.2.1 < 1000000 then some (va_up h.1 h.2.1 (some c), h.2.1 + 1, h.2.2 + n) else none
def tdfk (kind : Nat) : TV := match kind with
  | 0 => vI 0
  | 1 => vI 0
  | 2 => vL 0
  | _ => vR none
def tdf (ci : Nat) : Nat → TV := fun k => tdfk ((fKT.getD ci []).getD k 0)
def tna (h : TH) (t : Nat) (n : Int32) : Option TH := if n < 0 ∨ 1000000 < n.toNatClampNeg then none else (match t with
  | 0 => tnew h (.inl (0, n.toNatClampNeg, .inl (fun _ => 0))) n.toNatClampNeg
  | 1 => tnew h (.inl (1, n.toNatClampNeg, .inl (fun _ => 0))) n.toNatClampNeg
  | 2 => tnew h (.inl (2, n.toNatClampNeg, .inr (.inl (fun _ => 0)))) n.toNatClampNeg
  | 3 => tnew h (.inl (3, n.toNatClampNeg, .inr (.inr (.inr (.inr (fun _ => none)))))) n.toNatClampNeg
  | 4 => tnew h (.inl (4, n.toNatClampNeg, .inr (.inr (.inr (.inr (fun _ => none)))))) n.toNatClampNeg
  | _ => none)
def tcpy (h : TH) (a0 a1 : Nat) (sp dp n : Int32) : Option TH := match h.1 a0, h.1 a1 with
  | some (.inl (0, n0, .inl f)), some (.inl (0, n1, .inl g)) => if sp < 0 ∨ dp < 0 ∨ n < 0 ∨ n0 < sp.toNatClampNeg + n.toNatClampNeg ∨ n1 < dp.toNatClampNeg + n.toNatClampNeg then none else some (tset h a1 (.inl (0, n1, .inl (va_cpy f g sp.toNatClampNeg dp.toNatClampNeg n.toNatClampNeg))))
  | _, _ => none
def tcell0 : TC := .inr (0, fun _ => vU)
def tstr (j : Nat) : List Int32 := (strT.getD j [])
/-- what touches the heap, and goes on behind itself -/
def theap (sc : Nat × (Nat → Int32)) (m : Nat) (i : Instr) (len : Nat) (st : List TV) (h : TH) : Option (List TV × TH) := match i with
  | .getfield k => if len = 3 then (match tlk2 fDT (mO m) k, st with
    | some (cis, sl, _), .inr (.inr (.inl (some o))) :: r => (tget h o cis sl).map (fun v => (v :: r, h))
    | _, _ => none) else none
  | .putfield k => if len = 3 then (match tlk2 fDT (mO m) k, st with
    | some (cis, sl, kind), v :: .inr (.inr (.inl (some o))) :: r => if kind < 10 ∨ kind < 20 ∧ (mY m).name = "<init>" then (tput h o cis sl (kind % 10) v).map (fun h' => (r, h')) else none
    | _, _ => none) else none
  | .getstatic k => if len = 3 then (match tlk2 gST (mO m) k with
    | some q => some (vR (some q) :: st, h)
    | none => none) else none
  | .iaload => if len = 1 then (match st with
    | .inl j :: .inr (.inr (.inl (some a))) :: r => (tald sc h 0 a j).map (fun v => (vI v :: r, h))
    | _ => none) else none
  | .baload => if len = 1 then (match st with
    | .inl j :: .inr (.inr (.inl (some a))) :: r => (tald sc h 1 a j).map (fun v => (vI v :: r, h))
    | _ => none) else none
  | .laload => if len = 1 then (match st with
    | .inl j :: .inr (.inr (.inl (some a))) :: r => (tldl h a j).map (fun v => (vL v :: r, h))
    | _ => none) else none
  | .aaload => if len = 1 then (match st with
    | .inl j :: .inr (.inr (.inl (some a))) :: r => (tldr h a j).map (fun v => (vR v :: r, h))
    | _ => none) else none
  | .iastore => if len = 1 then (match st with
    | .inl x :: .inl j :: .inr (.inr (.inl (some a))) :: r => (tasi h a j x).map (fun h' => (r, h'))
    | _ => none) else none
  | .bastore => if len = 1 then (match st with
    | .inl x :: .inl j :: .inr (.inr (.inl (some a))) :: r => (tasb h a j x).map (fun h' => (r, h'))
    | _ => none) else none
  | .lastore => if len = 1 then (match st with
    | .inr (.inl x) :: .inl j :: .inr (.inr (.inl (some a))) :: r => (tasl h a j x).map (fun h' => (r, h'))
    | _ => none) else none
  | .aastore => if len = 1 then (match st with
    | .inr (.inr (.inl x)) :: .inl j :: .inr (.inr (.inl (some a))) :: r => (tasr h a j x).map (fun h' => (r, h'))
    | _ => none) else none
  | .arraylength => if len = 1 then (match st with
    | .inr (.inr (.inl (some a))) :: r => (tlen sc h a).map (fun v => (vI v :: r, h))
    | _ => none) else none
  | .newarray ty => if len = 2 then (match st, ty with
    | .inl n :: r, .int => (tna h 0 n).map (fun h' => (vR (some h.2.1) :: r, h'))
    | .inl n :: r, .byte => (tna h 1 n).map (fun h' => (vR (some h.2.1) :: r, h'))
    | .inl n :: r, .long => (tna h 2 n).map (fun h' => (vR (some h.2.1) :: r, h'))
    | _, _ => none) else none
  | .anewarray k => if len = 3 then (match tlk2 aNT (mO m) k, st with
    | some t, .inl n :: r => (tna h t n).map (fun h' => (vR (some h.2.1) :: r, h'))
    | _, _ => none) else none
  | .new k => if len = 3 then (match tlk2 nWT (mO m) k with
    | some (ci, n) => (tnew h (.inr (ci, tdf ci)) n).map (fun h' => (vR (some h.2.1) :: st, h'))
    | none => none) else none
  | .instanceof k => if len = 3 then (match tlk2 iNT (mO m) k, st with
    | some _, .inr (.inr (.inl none)) :: r => some (vI 0 :: r, h)
    | some cis, .inr (.inr (.inl (some o))) :: r => (match tcl h o with
      | some ci => if [0, 2, 3, 4, 6, 7].contains ci = true then some (vI (if cis.contains ci = true then 1 else 0) :: r, h) else none
      | none => none)
    | _, _ => none) else none
  | .checkcast k => if len = 3 ∧ mO m = tCC.1 ∧ k = tCC.2 then (match st with
    | .inr (.inr (.inl (some a))) :: r => (match h.1 a with
      | some (.inl (0, _, _)) => some (vR (some a) :: r, h)
      | _ => none)
    | _ => none) else none
  | _ => none
abbrev TN : Type := (Nat × List TV × List TV × TH) ⊕ (Option TV × TH) ⊕ (Nat × List TV × List TV)
/-- a call: what it asks for, or what it does itself -/
def tcall (m pc : Nat) (ls st : List TV) (h : TH) (ar mode : Nat) (alts : List (Nat × Nat)) : Option TN := match mode with
  | 0 => (match st.drop ar with
    | .inr (.inr (.inl (some o))) :: r => (match tcl h o with
      | some ci => (match tlk alts ci with
        | some m' => if r.length ≤ 4 then some (.inr (.inr (m', vR (some o) :: (st.take ar).reverse, r))) else none
        | none => none)
      | none => none)
    | _ => none)
  | 1 => (match tlk alts 99 with
    | some m' => if ar ≤ st.length ∧ (st.drop ar).length ≤ 4 then some (.inr (.inr (m', (st.take ar).reverse, st.drop ar))) else none
    | none => none)
  | 2 => (match st.drop ar, tlk alts 99 with
    | .inr (.inr (.inl (some o))) :: r, some m' => if r.length ≤ 4 then some (.inr (.inr (m', vR (some o) :: (st.take ar).reverse, r))) else none
    | _, _ => none)
  | 3 => (match st.drop ar, tlk alts 99 with
    | .inr (.inr (.inl (some o))) :: r, some m' => (match tcl h o with
      | some _ => if r.length ≤ 4 then some (.inr (.inr (m', vR (some o) :: (st.take ar).reverse, r))) else none
      | none => none)
    | _, _ => none)
  | 4 => (match st with
    | .inr (.inr (.inl (some _))) :: r => if r.length ≤ 4 ∧ 1 ≤ mF m ∧ 20 ≤ mW m then some (.inl (pc + 3, ls, r, h)) else none
    | _ => none)
  | 5 => (match st with
    | .inr (.inr (.inl (some o))) :: r => if 1000000003 ≤ o ∧ o < 1000000015 ∧ r.length ≤ 4 ∧ 5 ≤ mF m ∧ 91 ≤ mW m then some (.inl (pc + 3, ls, vI (Int32.ofNat (tstr (o - 1000000003)).length) :: r, h)) else none
    | _ => none)
  | 6 => (match st with
    | .inl j :: .inr (.inr (.inl (some o))) :: r => if 1000000003 ≤ o ∧ o < 1000000015 ∧ r.length ≤ 4 ∧ 5 ≤ mF m ∧ 91 ≤ mW m ∧ ¬ (j < 0 ∨ (tstr (o - 1000000003)).length ≤ j.toNatClampNeg) then some (.inl (pc + 3, ls, vI ((tstr (o - 1000000003)).getD j.toNatClampNeg 0) :: r, h)) else none
    | _ => none)
  | 7 => (match st with
    | .inl n :: .inl dp :: .inr (.inr (.inl (some a1))) :: .inl sp :: .inr (.inr (.inl (some a0))) :: r => if r.length ≤ 4 ∧ 1 ≤ mF m ∧ 26 ≤ mW m then (tcpy h a0 a1 sp dp n).map (fun h' => .inl (pc + 3, ls, r, h')) else none
    | _ => none)
  | 8 => (match st with
    | .inr (.inr (.inl (some a))) :: r => if a = 1000000001 ∧ r.length ≤ 4 ∧ 1 ≤ mF m ∧ 22 ≤ mW m then (tnew h (.inl (0, 4, .inl tfirst)) 4).map (fun h' => .inl (pc + 3, ls, vR (some h.2.1) :: r, h')) else none
    | _ => none)
  | 9 => (match st with
    | .inl y :: .inl x :: r => if r.length ≤ 4 ∧ 1 ≤ mF m ∧ 23 ≤ mW m then some (.inl (pc + 3, ls, vI (if x < y then y else x) :: r, h)) else none
    | _ => none)
  | 10 => (match st with
    | .inl y :: .inl x :: r => if r.length ≤ 4 ∧ 1 ≤ mF m ∧ 23 ≤ mW m then some (.inl (pc + 3, ls, vI (if y < x then y else x) :: r, h)) else none
    | _ => none)
  | 11 => (match st with
    | .inr (.inl y) :: .inr (.inl x) :: r => if r.length ≤ 4 ∧ 1 ≤ mF m ∧ 23 ≤ mW m then some (.inl (pc + 3, ls, vL (if y < x then x else y) :: r, h)) else none
    | _ => none)
  | 12 => (match st with
    | .inr (.inl x) :: r => if r.length ≤ 4 ∧ 1 ≤ mF m ∧ 23 ≤ mW m then some (.inl (pc + 3, ls, vL (if 0 < x then x else -x) :: r, h)) else none
    | _ => none)
  | _ => none
def tinv (i : Instr) : Option (Nat × Nat) := match i with
  | .invokevirtual k => some (0, k)
  | .invokestatic k => some (1, k)
  | .invokespecial k => some (2, k)
  | _ => none
/-- which instruction calls so: 0 invokevirtual, 1 invokestatic, 2 invokespecial -/
def tmk (mode : Nat) : Nat := ([0, 1, 2, 2, 2, 0, 0, 1, 0, 1, 1, 1, 1] : List Nat).getD mode 9
def tret (m : Nat) (i : Instr) (st : List TV) : Option (Option TV) := match i, st, mR m with
  | .ireturn, [.inl x], some .int => some (some (vI x))
  | .ireturn, [.inl x], some .boolean => if x = 0 ∨ x = 1 then some (some (vI x)) else none
  | .lreturn, [.inr (.inl x)], some .long => some (some (vL x))
  | .areturn, [.inr (.inr (.inl x))], some (.object _) => some (some (vR x))
  | .return_, [], none => some none
  | _, _, _ => none
/-- one instruction -/
def tins (sc : Nat × (Nat → Int32)) (m pc : Nat) (i : Instr) (len : Nat) (ls st : List TV) (h : TH) : Option TN := match tpure m i len ls st with
  | some (ls', st') => some (.inl (pc + len, ls', st', h))
  | none => (match tjump i pc len st with
    | some (t, st') => some (.inl (t, ls, st', h))
    | none => (match theap sc m i len st h with
      | some (st', h') => some (.inl (pc + len, ls, st', h'))
      | none => (match tinv i with
        | some (kd, k) => (match tlk2 cST (mO m) k with
          | some (ar, mode, alts) => if len = 3 ∧ tmk mode = kd then tcall m pc ls st h ar mode alts else none
          | none => none)
        | none => (match tret m i st with
          | some v => if len = 1 then some (.inr (.inl (v, h))) else none
          | none => none))))
def tstep (sc : Nat × (Nat → Int32)) (m pc : Nat) (ls st : List TV) (h : TH) : Option TN := match decode (mB m) pc with
  | .ok (i, len) => tins sc m pc i len ls st h
  | _ => none
def targ : List TV → List TV
  | [] => []
  | .inr (.inl x) :: r => vL x :: vU :: targ r
  | v :: r => v :: targ r
/-- the locals at a method's entry -/
def tini (n : Nat) (as : List TV) : List TV := targ as ++ List.replicate (n - (targ as).length) vU
/-- there is room for the call -/
def tchk (m m' : Nat) (as : List TV) : Bool := Nat.ble (mF m' + 1) (mF m) && Nat.ble (19 + mL m' + mW m') (mW m) && Nat.ble (targ as).length (mL m')
def texec (sc : Nat × (Nat → Int32)) : Nat → Nat → Nat → List TV → List TV → TH → Option (Option TV × TH)
  | 0, _, _, _, _, _ => none
  | n + 1, m, pc, ls, st, h => match tstep sc m pc ls st h with
    | some (.inl (pc', ls', st', h')) => texec sc n m pc' ls' st' h'
    | some (.inr (.inl r)) => some r
    | some (.inr (.inr (m', as, st'))) => if tchk m m' as = true then (match texec sc n m' 0 (tini (mL m') as) [] h with
      | some (v, h') => texec sc n m (pc + 3) ls (v.toList ++ st') h'
      | none => none) else none
    | none => none
/-- from here the method returns with Q -/
def tA (sc : Nat × (Nat → Int32)) (m pc : Nat) (ls st : List TV) (h : TH) (Q : Option TV → TH → Prop) : Prop := ∃ n v h', texec sc n m pc ls st h = some (v, h') ∧ Q v h'
