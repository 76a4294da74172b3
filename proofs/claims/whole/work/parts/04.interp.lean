/-! An interpreter of the bytecode over pictures of objects (an id is a place in the list), and its steps. -/
abbrev AO : Type := (Nat × (Nat → Int32)) ⊕ ((Nat × (Nat → Int64)) ⊕ (Nat × List Value))
abbrev AH : Type := List AO
abbrev LV : Type := List (Nat × Value)
abbrev XR : Type := Nat × Instr × Nat × Nat × Nat
abbrev HD : Type := Nat × Nat × Nat × Nat × Nat
/-- own class, name, bytes, locals, answer, handlers, parameters, rows -/
abbrev MI : Type := Nat × MethodName × ByteArray × Nat × Option FieldType × List HD × Nat × List XR
abbrev MI.own (M : MI) : Nat := M.1
abbrev MI.nm (M : MI) : MethodName := M.2.1
abbrev MI.by (M : MI) : ByteArray := M.2.2.1
abbrev MI.ml (M : MI) : Nat := M.2.2.2.1
abbrev MI.rt (M : MI) : Option FieldType := M.2.2.2.2.1
abbrev MI.hd (M : MI) : List HD := M.2.2.2.2.2.1
abbrev MI.np (M : MI) : Nat := M.2.2.2.2.2.2.1
abbrev MI.rw (M : MI) : List XR := M.2.2.2.2.2.2.2
abbrev Cfg : Type := Nat × LV × List Value × AH × Nat × Nat
abbrev Res : Type := (Option Value ⊕ Nat) × AH × Nat × Nat
def spc : Nat := 1000000
def oI (n : Nat) (f : Nat → Int32) : AO := .inl (n, f)
def oL (n : Nat) (f : Nat → Int64) : AO := .inr (.inl (n, f))
def oC (c : Nat) (fs : List Value) : AO := .inr (.inr (c, fs))
def xlk : List XR → Nat → Option (Instr × Nat × Nat × Nat)
  | [], _ => none
  | r :: rs, pc => if r.1 = pc then some r.2 else xlk rs pc
def lkv : LV → Nat → Option Value
  | [], _ => none
  | q :: l, i => if q.1 = i then some q.2 else lkv l i
/-- the locals are kept in the order of their numbers -/
def insL (i : Nat) (v : Value) : LV → LV
  | [] => [(i, v)]
  | q :: l => if i < q.1 then (i, v) :: q :: l else q :: insL i v l
def stI (lv : LV) (i : Nat) (v : Value) : LV := insL i v (lv.filter (fun q => !(q.1 == i) && !(q.1 + 1 == i && q.2.category == 2)))
def stL (lv : LV) (i : Nat) (v : Value) : LV := insL i v (lv.filter (fun q => !(q.1 == i) && (!(q.1 == i + 1) && !(q.1 + 1 == i && q.2.category == 2))))
/-- what is not needed any more is forgotten (b: what is needed has a smaller number) -/
def drp (b : Nat) (lv : LV) : LV := if b = 0 then lv else lv.filter (fun q => decide (q.1 < b))
def b2 (f : Int32 → Int32 → Int32) (st : List Value) : Option (List Value) := match st with
  | .int y :: .int x :: r => some (.int (f x y) :: r)
  | _ => none
def l2 (f : Int64 → Int64 → Int64) (st : List Value) : Option (List Value) := match st with
  | .long y :: .long x :: r => some (.long (f x y) :: r)
  | _ => none
def stk (i : Instr) (st : List Value) : Option (List Value) := match i with
  | .iconst n => some (.int (Int32.ofInt n) :: st)
  | .bipush n => some (.int (Int8.ofInt n).toInt32 :: st)
  | .sipush n => some (.int (Int16.ofInt n).toInt32 :: st)
  | .lconst n => some (.long (Int64.ofNat n.val) :: st)
  | .iadd => b2 (fun x y => x + y) st
  | .isub => b2 (fun x y => x - y) st
  | .imul => b2 (fun x y => x * y) st
  | .iand => b2 (fun x y => x &&& y) st
  | .ior => b2 (fun x y => x ||| y) st
  | .ixor => b2 (fun x y => x ^^^ y) st
  | .ishl => b2 (fun x y => x <<< (y &&& 31)) st
  | .ishr => b2 (fun x y => x >>> (y &&& 31)) st
  | .iushr => b2 (fun x y => (x.toUInt32 >>> (y.toUInt32 &&& Int32.toUInt32 31)).toInt32) st
  | .idiv => (match st with
    | .int y :: .int x :: r => if y = 0 then none else some (.int (x / y) :: r)
    | _ => none)
  | .irem => (match st with
    | .int y :: .int x :: r => if y = 0 then none else some (.int (x - x / y * y) :: r)
    | _ => none)
  | .ineg => (match st with
    | .int x :: r => some (.int (-x) :: r)
    | _ => none)
  | .ladd => l2 (fun x y => x + y) st
  | .lmul => l2 (fun x y => x * y) st
  | .land => l2 (fun x y => x &&& y) st
  | .ldiv => (match st with
    | .long y :: .long x :: r => if y = 0 then none else some (.long (x / y) :: r)
    | _ => none)
  | .lrem => (match st with
    | .long y :: .long x :: r => if y = 0 then none else some (.long (x - x / y * y) :: r)
    | _ => none)
  | .lshr => (match st with
    | .int y :: .long x :: r => some (.long (x >>> (y.toInt64 &&& 63)) :: r)
    | _ => none)
  | .i2l => (match st with
    | .int x :: r => some (.long x.toInt64 :: r)
    | _ => none)
  | .lcmp => (match st with
    | .long y :: .long x :: r => some (.int (lg_cmp x y) :: r)
    | _ => none)
  | .dup => (match st with
    | v :: r => if v.category = 1 then some (v :: v :: r) else none
    | _ => none)
  | .pop => (match st with
    | v :: r => if v.category = 1 then some r else none
    | _ => none)
  | .dup2 => (match st with
    | v :: w :: r => if v.category = 1 ∧ w.category = 1 then some (v :: w :: v :: w :: r) else none
    | _ => none)
  | _ => none
def ldI (k b : Nat) (lv : LV) (st : List Value) : Option (LV × List Value) := match lkv lv k with
  | some (.int x) => some (drp b lv, .int x :: st)
  | _ => none
def ldL (k b : Nat) (lv : LV) (st : List Value) : Option (LV × List Value) := match lkv lv k with
  | some (.long x) => some (drp b lv, .long x :: st)
  | _ => none
def ldA (k b : Nat) (lv : LV) (st : List Value) : Option (LV × List Value) := match lkv lv k with
  | some (.ref x) => some (drp b lv, .ref x :: st)
  | _ => none
def svI (n k : Nat) (lv : LV) (st : List Value) : Option (LV × List Value) := match st with
  | .int x :: r => if k < n then some (stI lv k (.int x), r) else none
  | _ => none
def svL (n k : Nat) (lv : LV) (st : List Value) : Option (LV × List Value) := match st with
  | .long x :: r => if k + 1 < n then some (stL lv k (.long x), r) else none
  | _ => none
def svA (n k : Nat) (lv : LV) (st : List Value) : Option (LV × List Value) := match st with
  | .ref x :: r => if k < n then some (stI lv k (.ref x), r) else none
  | _ => none
def locop (i : Instr) (n b : Nat) (lv : LV) (st : List Value) : Option (LV × List Value) := match i with
  | .iload k => ldI k b lv st
  | .iload_n k => ldI k.val b lv st
  | .lload k => ldL k b lv st
  | .lload_n k => ldL k.val b lv st
  | .aload k => ldA k b lv st
  | .aload_n k => ldA k.val b lv st
  | .istore k => svI n k lv st
  | .istore_n k => svI n k.val lv st
  | .lstore k => svL n k lv st
  | .lstore_n k => svL n k.val lv st
  | .astore k => svA n k lv st
  | .astore_n k => svA n k.val lv st
  | .iinc k d => (match lkv lv k with
    | some (.int x) => if k < n then some (stI lv k (.int (x + Int32.ofInt d)), st) else none
    | _ => none)
  | _ => none
def ifc (x y : Int32) : Nat → Prop
  | 0 => x = y
  | 1 => ¬ x = y
  | 2 => x < y
  | 3 => y ≤ x
  | 4 => y < x
  | _ => x ≤ y
def swT (pc : Nat) (d lo hi : Int) (offs : Array Int) (x : Int32) : Option Nat :=
  if x.toInt < lo ∨ hi < x.toInt then some ((pc : Int) + d).toNat else match offs[(x.toInt - lo).toNat]? with
    | some o => some ((pc : Int) + o).toNat
    | none => none
def jmp (i : Instr) (a pc : Nat) (st : List Value) : Option (Nat × List Value) := match i with
  | .goto _ => some (a, st)
  | .ifCond c _ => (match st with
    | .int x :: r => (match c with
      | .eq => some (if x = 0 then a else pc + 3, r)
      | .ne => some (if ¬ x = 0 then a else pc + 3, r)
      | .lt => some (if x < 0 then a else pc + 3, r)
      | .ge => some (if 0 ≤ x then a else pc + 3, r)
      | .gt => some (if 0 < x then a else pc + 3, r)
      | .le => some (if x ≤ 0 then a else pc + 3, r))
    | _ => none)
  | .if_icmp c _ => (match st with
    | .int y :: .int x :: r => (match c with
      | .eq => some (if x = y then a else pc + 3, r)
      | .ne => some (if ¬ x = y then a else pc + 3, r)
      | .lt => some (if x < y then a else pc + 3, r)
      | .ge => some (if y ≤ x then a else pc + 3, r)
      | .gt => some (if y < x then a else pc + 3, r)
      | .le => some (if x ≤ y then a else pc + 3, r))
    | _ => none)
  | .tableswitch d lo hi offs => (match st with
    | .int x :: r => (match swT pc d lo hi offs x with
      | some q => some (q, r)
      | none => none)
    | _ => none)
  | .lookupswitch d ps => (match st with
    | .int x :: r => some (((pc : Int) + Op.lookupswitch.offset ps.toList d x.toInt).toNat, r)
    | _ => none)
  | _ => none
def fok (ty : FieldType) (v : Value) : Bool := match ty, v with
  | .int, .int _ => true
  | .object _, .ref _ => true
  | .array _, .ref _ => true
  | _, _ => false
def heapop (fty : Nat → Nat → FieldType) (sc : Option (Nat × (Nat → Int32))) (i : Instr) (a b : Nat) (st : List Value) (G : AH) : Option (List Value × AH) := match i with
  | .getfield _ => (match st with
    | .ref o :: r => (match G[o]? with
      | some (.inr (.inr (ci, fs))) => if ci = a then (match fs[b]? with
        | some v => some (v :: r, G)
        | none => none) else none
      | _ => none)
    | _ => none)
  | .putfield _ => (match st with
    | v :: .ref o :: r => (match G[o]? with
      | some (.inr (.inr (ci, fs))) => if ci = a ∧ b < fs.length ∧ fok (fty a b) v = true then some (r, G.set o (oC ci (fs.set b v))) else none
      | _ => none)
    | _ => none)
  | .iaload => (match st with
    | .int j :: .ref o :: r => if o = spc then (match sc with
      | some q => if j < 0 ∨ q.1 ≤ j.toNatClampNeg then none else some (.int (q.2 j.toNatClampNeg) :: r, G)
      | none => none) else (match G[o]? with
      | some (.inl (n, f)) => if j < 0 ∨ n ≤ j.toNatClampNeg then none else some (.int (f j.toNatClampNeg) :: r, G)
      | _ => none)
    | _ => none)
  | .laload => (match st with
    | .int j :: .ref o :: r => (match G[o]? with
      | some (.inr (.inl (n, f))) => if j < 0 ∨ n ≤ j.toNatClampNeg then none else some (.long (f j.toNatClampNeg) :: r, G)
      | _ => none)
    | _ => none)
  | .iastore => (match st with
    | .int x :: .int j :: .ref o :: r => (match G[o]? with
      | some (.inl (n, f)) => if j < 0 ∨ n ≤ j.toNatClampNeg then none else some (r, G.set o (oI n (upd f j.toNatClampNeg x)))
      | _ => none)
    | _ => none)
  | .lastore => (match st with
    | .long x :: .int j :: .ref o :: r => (match G[o]? with
      | some (.inr (.inl (n, f))) => if j < 0 ∨ n ≤ j.toNatClampNeg then none else some (r, G.set o (oL n (vp_updL f j.toNatClampNeg x)))
      | _ => none)
    | _ => none)
  | .arraylength => (match st with
    | .ref o :: r => if o = spc then (match sc with
      | some q => some (.int (Int32.ofNat q.1) :: r, G)
      | none => none) else (match G[o]? with
      | some (.inl (n, _)) => some (.int (Int32.ofNat n) :: r, G)
      | some (.inr (.inl (n, _))) => some (.int (Int32.ofNat n) :: r, G)
      | _ => none)
    | _ => none)
  | _ => none
/-- constants: b = 0 an int, 1 a text -/
def ldop (i : Instr) (a b : Nat) : Option Value := match i with
  | .ldc _ => if b = 0 then some (.int (Int32.ofNat a)) else some (.ref (spc + 1 + a))
  | .ldc_w _ => if b = 0 then some (.int (Int32.ofNat a)) else some (.ref (spc + 1 + a))
  | .ldc2_w _ => some (.long (Int64.ofNat a))
  | _ => none
def retop (rt : Option FieldType) (i : Instr) (st : List Value) : Option (Option Value) := match i with
  | .ireturn => (match st, rt with
    | [.int v], some .int => some (some (.int v))
    | [.int v], some .boolean => if v = 0 ∨ v = 1 then some (some (.int v)) else none
    | _, _ => none)
  | .lreturn => (match st, rt with
    | [.long v], some .long => some (some (.long v))
    | _, _ => none)
  | .return_ => (match st, rt with
    | [], none => some none
    | _, _ => none)
  | _ => none
def okV (n : Nat) : Value → Bool
  | .ref i => decide (i < n) || decide (spc ≤ i)
  | _ => true
def okO (n : Nat) : AO → Bool
  | .inr (.inr (_, fs)) => fs.all (okV n)
  | _ => true
def okA (lv : LV) (st : List Value) (G : AH) : Bool := lv.all (fun q => okV G.length q.2) && st.all (okV G.length) && G.all (okO G.length) && decide (G.length < spc)
def wcs (st : List Value) : Nat := (st.map fun v => v.category).sum
def dfl (ty : FieldType) : Value := match ty with
  | .int => .int 0
  | _ => .null
/-- makings; a place from 1000 on: a throw of the exception behind it -/
def newop (cn : List vw_C) (fty : Nat → Nat → FieldType) (hd : List HD) (i : Instr) (len a pc : Nat) (lv : LV) (st : List Value) (G : AH) (c z : Nat) : Option (Cfg ⊕ Res) := match i with
  | .new _ => if 1000 ≤ a then (if hd = [] ∧ wcs st ≤ 8 then some (.inr (.inr (a - 1000), G, c + 1, z + 6)) else none) else (match cn[a]? with
    | some q => if okA lv st G = true then some (.inl (pc + len, lv, .ref G.length :: st, G ++ [oC a ((List.range q.2.2).map fun k => dfl (fty a k))], c + 1, z + q.2.2)) else none
    | none => none)
  | .newarray t => (match st with
    | .int n :: r => if n < 0 ∨ 60000000 < n.toNatClampNeg ∨ okA lv r G = false then none else (match t with
      | .int => some (.inl (pc + len, lv, .ref G.length :: r, G ++ [oI n.toNatClampNeg (fun _ => 0)], c + 1, z + n.toNatClampNeg))
      | .long => some (.inl (pc + len, lv, .ref G.length :: r, G ++ [oL n.toNatClampNeg (fun _ => 0)], c + 1, z + n.toNatClampNeg))
      | _ => none)
    | _ => none)
  | _ => none
/-- members of the JDK: 900 min, 901 max, 902 length, 903 charAt, 904 Object() -/
def prim (TXT : List (List Nat)) (k : Nat) (as : List Value) (G : AH) : Option Res := match k, as with
  | 900, [.int x, .int y] => some (.inl (some (.int (if y < x then y else x))), G, 0, 0)
  | 901, [.int x, .int y] => some (.inl (some (.int (if x < y then y else x))), G, 0, 0)
  | 902, [.ref o] => if spc < o then (match TXT[o - spc - 1]? with
    | some t => some (.inl (some (.int (Int32.ofNat t.length))), G, 0, 0)
    | none => none) else none
  | 903, [.ref o, .int j] => if spc < o then (match TXT[o - spc - 1]? with
    | some t => if j < 0 ∨ t.length ≤ j.toNatClampNeg then none else some (.inl (some (.int (Int32.ofNat (t.getD j.toNatClampNeg 0)))), G, 0, 0)
    | none => none) else none
  | 904, [.ref _] => some (.inl none, G, 0, 0)
  | _, _ => none
/-- where an exception lands: the first row that covers the place and is of its class -/
def hfind : List HD → Nat → Nat → Option Nat
  | [], _, _ => none
  | h :: hs, pc, e => if h.1 ≤ pc ∧ pc < h.2.1 ∧ h.2.2.2.2 = e then some h.2.2.1 else hfind hs pc e
def hstore (rw : List XR) (ml h : Nat) (lv : LV) : Option (Nat × LV) := match xlk rw h with
  | some (.astore k, _, _, _) => if k < ml then some (h + 2, lv.filter (fun q => !(q.1 == k) && !(q.1 + 1 == k && q.2.category == 2))) else none
  | some (.astore_n k, _, _, _) => if k.val < ml then some (h + 1, lv.filter (fun q => !(q.1 == k.val) && !(q.1 + 1 == k.val && q.2.category == 2))) else none
  | _ => none
def calls (orc : Nat → List Value → AH → Option Res) (TXT : List (List Nat)) (hd : List HD) (rw : List XR) (ml tg pc : Nat) (lv : LV) (as rest : List Value) (G : AH) (c z : Nat) : Option (Cfg ⊕ Res) :=
  if 8 < wcs rest then none else match (if 900 ≤ tg then prim TXT tg as G else orc tg as G) with
    | some (.inl v, G1, c1, z1) => if G1.length = G.length ∨ okA lv rest G = true then some (.inl (pc + 3, lv, v.toList ++ rest, G1, c + c1, z + z1)) else none
    | some (.inr e, G1, c1, z1) => if G1.length = G.length ∧ e < 2 then (match hfind hd pc e with
      | some h => (match hstore rw ml h lv with
        | some (pc', lv') => some (.inl (pc', lv', [], G1, c + c1, z + z1))
        | none => none)
      | none => if hd.all (fun h => decide (pc < h.1) || decide (h.2.1 ≤ pc)) = true then some (.inr (.inr e, G1, c + c1, z + z1)) else none) else none
    | none => none
def clsOf (G : AH) (o : Nat) : Option Nat := match G[o]? with
  | some (.inr (.inr (ci, _))) => some ci
  | _ => none
def npar (MT : List MI) (tg : Nat) : Option Nat := match tg with
  | 900 => some 2
  | 901 => some 2
  | 902 => some 0
  | 903 => some 1
  | 904 => some 0
  | k => match MT[k]? with
    | some M => some M.np
    | none => none
def recvOk (MT : List MI) (tg : Nat) (G : AH) (o : Nat) : Bool := if tg = 902 ∨ tg = 903 then true else match MT[tg]? with
  | some M => decide (clsOf G o = some M.own)
  | none => false
def invop (MT : List MI) (orc : Nat → List Value → AH → Option Res) (TXT : List (List Nat)) (M : MI) (i : Instr) (a pc : Nat) (lv : LV) (st : List Value) (G : AH) (c z : Nat) : Option (Cfg ⊕ Res) := match npar MT a with
  | none => none
  | some n => match i with
    | .invokestatic _ => if n ≤ st.length then calls orc TXT M.hd M.rw M.ml a pc lv (st.take n).reverse (st.drop n) G c z else none
    | .invokevirtual _ => if n ≤ st.length then (match st.drop n with
      | .ref o :: r => if recvOk MT a G o = true then calls orc TXT M.hd M.rw M.ml a pc lv (.ref o :: (st.take n).reverse) r G c z else none
      | _ => none) else none
    | .invokespecial _ => if n ≤ st.length then (match st.drop n with
      | .ref o :: r => calls orc TXT M.hd M.rw M.ml a pc lv (.ref o :: (st.take n).reverse) r G c z
      | _ => none) else none
    | _ => none
def step1 (cn : List vw_C) (fty : Nat → Nat → FieldType) (MT : List MI) (TXT : List (List Nat)) (sc : Option (Nat × (Nat → Int32))) (orc : Nat → List Value → AH → Option Res) (M : MI) : Cfg → Option (Cfg ⊕ Res)
  | (pc, lv, st, G, c, z) => match xlk M.rw pc with
    | none => none
    | some (i, len, a, b) => match stk i st with
      | some st' => some (.inl (pc + len, lv, st', G, c, z))
      | none => match locop i M.ml b lv st with
        | some (lv', st') => some (.inl (pc + len, lv', st', G, c, z))
        | none => match jmp i a pc st with
          | some (pc', st') => some (.inl (pc', lv, st', G, c, z))
          | none => match heapop fty sc i a b st G with
            | some (st', G') => some (.inl (pc + len, lv, st', G', c, z))
            | none => match ldop i a b with
              | some v => some (.inl (pc + len, lv, v :: st, G, c, z))
              | none => match retop M.rt i st with
                | some v => some (.inr (.inl v, G, c, z))
                | none => match newop cn fty M.hd i len a pc lv st G c z with
                  | some r => some r
                  | none => invop MT orc TXT M i a pc lv st G c z
def run (cn : List vw_C) (fty : Nat → Nat → FieldType) (MT : List MI) (TXT : List (List Nat)) (sc : Option (Nat × (Nat → Int32))) (orc : Nat → List Value → AH → Option Res) (M : MI) : Nat → Cfg → Option Res
  | 0, _ => none
  | n + 1, cf => match step1 cn fty MT TXT sc orc M cf with
    | none => none
    | some (.inl cf') => run cn fty MT TXT sc orc M n cf'
    | some (.inr r) => some r
def call (cn : List vw_C) (fty : Nat → Nat → FieldType) (MT : List MI) (TXT : List (List Nat)) (N : Nat) : Nat → Nat → List Value → AH → Option Res
  | 0, _, _, _ => none
  | d + 1, k, as, G => match MT[k]? with
    | none => none
    | some M => if (lg_sl as).length ≤ M.ml then run cn fty MT TXT none (call cn fty MT TXT N d) M N (0, lv_args 0 as, [], G, 0, 0) else none
