/-! worlds of the classes; the methods as functions (written by program: wip/tools) -/
def wSt (E : gE) (a0 a1 a2 a3 a4 a5 a6 a7 a8 a9 : Nat) (lk : Nat → Int32) (la : Nat → Int32) (ll : Nat → Int32) (lots : Int32) (pk : Nat → Int32) (pa : Nat → Int32) (pd : Nat → Int32) (onp : Int32) (br : Nat → Int32) (us : Nat → Int32) (sp : Nat → Int32) : va_W := [(a0, .inr (4, [.ref a1, .ref a2, .ref a3, .int lots, .ref a4, .ref a5, .ref a6, .int onp, .ref a7, .ref a8, .ref a9])), (a1, .inl (E.2.1, 20, .inl lk)), (a2, .inl (E.2.1, 20, .inl la)), (a3, .inl (E.2.1, 20, .inl ll)), (a4, .inl (E.2.1, 6, .inl pk)), (a5, .inl (E.2.1, 6, .inl pa)), (a6, .inl (E.2.1, 6, .inl pd)), (a7, .inl (E.2.1, 3, .inl br)), (a8, .inl (E.2.1, 3, .inl us)), (a9, .inl (E.2.1, 3, .inl sp))]
def wPa (E : gE) (a0 a1 a2 a3 a4 a5 a6 : Nat) (zs : Nat → Int32) (zd : Nat → Int32) (zn : Nat → Int32) (zt : Nat → Int32) (zl : Nat → Int32) (zc : Nat → Int32) (nm : Int32) : va_W := [(a0, .inr (2, [.ref a1, .ref a2, .ref a3, .ref a4, .ref a5, .ref a6, .int nm])), (a1, .inl (E.2.1, 17, .inl zs)), (a2, .inl (E.2.1, 17, .inl zd)), (a3, .inl (E.2.1, 17, .inl zn)), (a4, .inl (E.2.1, 17, .inl zt)), (a5, .inl (E.2.1, 17, .inl zl)), (a6, .inl (E.2.1, 17, .inl zc))]
def wTx (E : gE) (a0 a1 a2 : Nat) (ch : Nat → Int32) (tl : Int32) (nu : Nat → Int32) (le : Int32) (nx : Int32) : va_W := [(a0, .inr (5, [.ref a1, .int tl, .ref a2, .int le, .int nx])), (a1, .inl (E.2.2.2.1, 60, .inl ch)), (a2, .inl (E.2.1, 3, .inl nu))]
def wNu (E : gE) (a0 : Nat) (nu : Nat → Int32) : va_W := [(a0, .inl (E.2.1, 3, .inl nu))]
def wHo (E : gE) (a0 a1 a11 a18 a19 : Nat) (dy fl hu cn gn cs : Int32) : va_W := [(a0, .inr (1, [.ref a1, .ref a11, .ref a18, .ref a19, .int dy, .int fl, .int hu, .int cn, .int gn, .int cs]))]
def wH8 (E : gE) (a18 : Nat) (sto : Nat → Int32) : va_W := [(a18, .inl (E.2.2.1, 396, .inl sto))]
def wH9 (E : gE) (a19 : Nat) (sg : Nat → Int32) : va_W := [(a19, .inl (E.2.1, 4, .inl sg))]
def fX4_isKind  (p1 : Int32) : Option (Int32) :=
  if p1 < 0 then
    some (0 : Int32)
  else
    if (3 : Int32) ≤ p1 then
      some (0 : Int32)
    else
      some (1 : Int32)

def sX4_addLot_rec5 (lots : Int32) (br : Nat → Int32) (p1 : Int32) (p2 : Int32) (p3 : Int32) (rec5 : Int32 → (Nat → Int32) → (Nat → Int32) → (Nat → Int32) → Option ((Nat → Int32) × (Nat → Int32) × (Nat → Int32) × Int32 × (Nat → Int32))) (v6 : Int32) (lk7 : Nat → Int32) (la8 : Nat → Int32) (ll9 : Nat → Int32) : Option ((Nat → Int32) × (Nat → Int32) × (Nat → Int32) × Int32 × (Nat → Int32)) :=
  mrg (fun (_ : Unit) =>
    gd (inB v6 20) <|
    jl (upd lk7 (v6).toNatClampNeg p1) fun lk20 =>
    jl (upd la8 (v6).toNatClampNeg p2) fun la21 =>
    jl (upd ll9 (v6).toNatClampNeg p3) fun ll22 =>
    jl (lots + (1 : Int32)) fun v23 =>
    gd (inB p1 3) <|
    jl (upd br (p1).toNatClampNeg ((br (p1).toNatClampNeg) + p2)) fun br25 =>
    some (lk20, la21, ll22, v23, br25)
  ) fun J11 =>
    if v6 ≤ 0 then
      J11 ()
    else
      gd (inB (v6 - (1 : Int32)) 20) <|
      if (ll9 ((v6 - (1 : Int32))).toNatClampNeg) ≤ p3 then
        J11 ()
      else
        gd (inB v6 20) <|
        jl (upd lk7 (v6).toNatClampNeg (lk7 ((v6 - (1 : Int32))).toNatClampNeg)) fun lk15 =>
        jl (upd la8 (v6).toNatClampNeg (la8 ((v6 - (1 : Int32))).toNatClampNeg)) fun la16 =>
        jl (upd ll9 (v6).toNatClampNeg (ll9 ((v6 - (1 : Int32))).toNatClampNeg)) fun ll17 =>
        jl (v6 + (-1 : Int32)) fun v18 =>
        rec5 v18 lk15 la16 ll17
def fX4_addLot (lk : Nat → Int32) (la : Nat → Int32) (ll : Nat → Int32) (lots : Int32) (br : Nat → Int32) (p1 : Int32) (p2 : Int32) (p3 : Int32) : Option ((Nat → Int32) × (Nat → Int32) × (Nat → Int32) × Int32 × (Nat → Int32)) :=
  if (20 : Int32) ≤ lots then
    some (lk, la, ll, lots, br)
  else
    bd1 (fX4_isKind p1) fun r2 =>
    if r2 = 0 then
      some (lk, la, ll, lots, br)
    else
      gl4 (sX4_addLot_rec5 lots br p1 p2 p3) gFU lots lk la ll

def fX4_addToPallet (pk : Nat → Int32) (pa : Nat → Int32) (pd : Nat → Int32) (onp : Int32) (p1 : Int32) (p2 : Int32) (p3 : Int32) : Option ((Nat → Int32) × (Nat → Int32) × (Nat → Int32) × Int32) :=
  if onp < (6 : Int32) then
    gd (inB onp 6) <|
    jl (upd pk (onp).toNatClampNeg p1) fun pk3 =>
    jl (upd pa (onp).toNatClampNeg p2) fun pa4 =>
    jl (upd pd (onp).toNatClampNeg p3) fun pd5 =>
    jl (onp + (1 : Int32)) fun v6 =>
    some (pk3, pa4, pd5, v6)
  else
    some (pk, pa, pd, onp)

def sX4_amountOnPallet_rec1 (pk : Nat → Int32) (pa : Nat → Int32) (onp : Int32) (p1 : Int32) (rec1 : Int32 → Int32 → Option (Int32)) (v2 : Int32) (v3 : Int32) : Option (Int32) :=
  if onp ≤ v2 then
    some v3
  else
    gd (inB v2 6) <|
    if (pk (v2).toNatClampNeg) = p1 then
      jl (v3 + (pa (v2).toNatClampNeg)) fun v8 =>
      jl (v2 + (1 : Int32)) fun v9 =>
      rec1 v9 v8
    else
      jl (v2 + (1 : Int32)) fun v7 =>
      rec1 v7 v3
def fX4_amountOnPallet (pk : Nat → Int32) (pa : Nat → Int32) (onp : Int32) (p1 : Int32) : Option (Int32) :=
  gl2 (sX4_amountOnPallet_rec1 pk pa onp p1) gFU (0 : Int32) (0 : Int32)

def fX4_copyFrom (o0_lk : Nat → Int32) (o0_la : Nat → Int32) (o0_ll : Nat → Int32) (o0_lots : Int32) (o0_pk : Nat → Int32) (o0_pa : Nat → Int32) (o0_pd : Nat → Int32) (o0_onp : Int32) (o0_br : Nat → Int32) (o0_us : Nat → Int32) (o0_sp : Nat → Int32)  : Option ((Nat → Int32) × (Nat → Int32) × (Nat → Int32) × Int32 × (Nat → Int32) × (Nat → Int32) × (Nat → Int32) × Int32 × (Nat → Int32) × (Nat → Int32) × (Nat → Int32)) :=
  some (o0_lk, o0_la, o0_ll, o0_lots, o0_pk, o0_pa, o0_pd, o0_onp, o0_br, o0_us, o0_sp)

def sX4_dropEmptyLots_rec1 (lots : Int32) (rec1 : Int32 → Int32 → (Nat → Int32) → (Nat → Int32) → (Nat → Int32) → Option ((Nat → Int32) × (Nat → Int32) × (Nat → Int32) × Int32)) (v2 : Int32) (v3 : Int32) (lk4 : Nat → Int32) (la5 : Nat → Int32) (ll6 : Nat → Int32) : Option ((Nat → Int32) × (Nat → Int32) × (Nat → Int32) × Int32) :=
  if lots ≤ v2 then
    some (lk4, la5, ll6, v3)
  else
    gd (inB v2 20) <|
    if (la5 (v2).toNatClampNeg) ≤ 0 then
      jl (v2 + (1 : Int32)) fun v10 =>
      rec1 v10 v3 lk4 la5 ll6
    else
      gd (inB v3 20) <|
      jl (upd lk4 (v3).toNatClampNeg (lk4 (v2).toNatClampNeg)) fun lk12 =>
      jl (upd la5 (v3).toNatClampNeg (la5 (v2).toNatClampNeg)) fun la13 =>
      jl (upd ll6 (v3).toNatClampNeg (ll6 (v2).toNatClampNeg)) fun ll14 =>
      jl (v3 + (1 : Int32)) fun v15 =>
      jl (v2 + (1 : Int32)) fun v16 =>
      rec1 v16 v15 lk12 la13 ll14
def fX4_dropEmptyLots (lk : Nat → Int32) (la : Nat → Int32) (ll : Nat → Int32) (lots : Int32)  : Option ((Nat → Int32) × (Nat → Int32) × (Nat → Int32) × Int32) :=
  gl5 (sX4_dropEmptyLots_rec1 lots) gFU (0 : Int32) (0 : Int32) lk la ll

def sX4_find_rec1 (lk : Nat → Int32) (lots : Int32) (p1 : Int32) (p2 : Int32) (rec1 : Int32 → Int32 → Option (Int32)) (v2 : Int32) (v3 : Int32) : Option (Int32) :=
  if lots ≤ v2 then
    some (-1 : Int32)
  else
    gd (inB v2 20) <|
    if (lk (v2).toNatClampNeg) = p1 then
      if v3 = p2 then
        some v2
      else
        jl (v3 + (1 : Int32)) fun v9 =>
        jl (v2 + (1 : Int32)) fun v10 =>
        rec1 v10 v9
    else
      jl (v2 + (1 : Int32)) fun v7 =>
      rec1 v7 v3
def fX4_find (lk : Nat → Int32) (lots : Int32) (p1 : Int32) (p2 : Int32) : Option (Int32) :=
  gl2 (sX4_find_rec1 lk lots p1 p2) gFU (0 : Int32) (0 : Int32)

def sX4_lotsOfKind_rec1 (lk : Nat → Int32) (lots : Int32) (p1 : Int32) (rec1 : Int32 → Int32 → Option (Int32)) (v2 : Int32) (v3 : Int32) : Option (Int32) :=
  if lots ≤ v2 then
    some v3
  else
    gd (inB v2 20) <|
    if (lk (v2).toNatClampNeg) = p1 then
      jl (v3 + (1 : Int32)) fun v8 =>
      jl (v2 + (1 : Int32)) fun v9 =>
      rec1 v9 v8
    else
      jl (v2 + (1 : Int32)) fun v7 =>
      rec1 v7 v3
def fX4_lotsOfKind (lk : Nat → Int32) (lots : Int32) (p1 : Int32) : Option (Int32) :=
  gl2 (sX4_lotsOfKind_rec1 lk lots p1) gFU (0 : Int32) (0 : Int32)

def sX4_spoil_rec6 (lk : Nat → Int32) (ll : Nat → Int32) (lots : Int32) (p1 : Int32) (rec1 : Int32 → (Nat → Int32) → (Nat → Int32) → Option ((Nat → Int32) × (Nat → Int32))) (v2 : Int32) (rec6 : Int32 → (Nat → Int32) → (Nat → Int32) → Option ((Nat → Int32) × (Nat → Int32))) (v7 : Int32) (la8 : Nat → Int32) (sp9 : Nat → Int32) : Option ((Nat → Int32) × (Nat → Int32)) :=
  if lots ≤ v7 then
    jl (v2 + (1 : Int32)) fun v11 =>
    rec1 v11 la8 sp9
  else
    gd (inB v7 20) <|
    if (lk (v7).toNatClampNeg) = v2 then
      if (ll (v7).toNatClampNeg) = p1 then
        gd (inB v2 3) <|
        jl (upd sp9 (v2).toNatClampNeg ((sp9 (v2).toNatClampNeg) + (la8 (v7).toNatClampNeg))) fun sp18 =>
        jl (upd la8 (v7).toNatClampNeg (0 : Int32)) fun la19 =>
        jl (v7 + (1 : Int32)) fun v20 =>
        rec6 v20 la19 sp18
      else
        jl (v7 + (1 : Int32)) fun v16 =>
        rec6 v16 la8 sp9
    else
      jl (v7 + (1 : Int32)) fun v14 =>
      rec6 v14 la8 sp9
def sX4_spoil_rec1 (lk : Nat → Int32) (ll : Nat → Int32) (lots : Int32) (p1 : Int32) (rec1 : Int32 → (Nat → Int32) → (Nat → Int32) → Option ((Nat → Int32) × (Nat → Int32))) (v2 : Int32) (la3 : Nat → Int32) (sp4 : Nat → Int32) : Option ((Nat → Int32) × (Nat → Int32)) :=
  if (3 : Int32) ≤ v2 then
    some (la3, sp4)
  else
    gl3 (sX4_spoil_rec6 lk ll lots p1 rec1 v2) gFU (0 : Int32) la3 sp4
def fX4_spoil (lk : Nat → Int32) (la : Nat → Int32) (ll : Nat → Int32) (lots : Int32) (sp : Nat → Int32) (p1 : Int32) : Option ((Nat → Int32) × (Nat → Int32)) :=
  gl3 (sX4_spoil_rec1 lk ll lots p1) gFU (0 : Int32) la sp

def sX4_stock_rec1 (lk : Nat → Int32) (la : Nat → Int32) (lots : Int32) (p1 : Int32) (rec1 : Int32 → Int32 → Option (Int32)) (v2 : Int32) (v3 : Int32) : Option (Int32) :=
  if lots ≤ v2 then
    some v3
  else
    gd (inB v2 20) <|
    if (lk (v2).toNatClampNeg) = p1 then
      jl (v3 + (la (v2).toNatClampNeg)) fun v8 =>
      jl (v2 + (1 : Int32)) fun v9 =>
      rec1 v9 v8
    else
      jl (v2 + (1 : Int32)) fun v7 =>
      rec1 v7 v3
def fX4_stock (lk : Nat → Int32) (la : Nat → Int32) (lots : Int32) (p1 : Int32) : Option (Int32) :=
  gl2 (sX4_stock_rec1 lk la lots p1) gFU (0 : Int32) (0 : Int32)

def sX4_take_rec1 (lk : Nat → Int32) (lots : Int32) (us : Nat → Int32) (p1 : Int32) (p2 : Int32) (rec1 : Int32 → Int32 → (Nat → Int32) → Option (Int32 × (Nat → Int32) × (Nat → Int32))) (v2 : Int32) (v3 : Int32) (la4 : Nat → Int32) : Option (Int32 × (Nat → Int32) × (Nat → Int32)) :=
  if lots ≤ v2 then
    gd (inB p1 3) <|
    jl (upd us (p1).toNatClampNeg ((us (p1).toNatClampNeg) + v3)) fun us7 =>
    some (v3, la4, us7)
  else
    gd (inB v2 20) <|
    if (lk (v2).toNatClampNeg) = p1 then
      jl (p2 - v3) fun v11 =>
      mrg (fun (v14 : Int32) =>
        jl (upd la4 (v2).toNatClampNeg ((la4 (v2).toNatClampNeg) - v14)) fun la15 =>
        jl (v3 + v14) fun v16 =>
        jl (v2 + (1 : Int32)) fun v17 =>
        rec1 v17 v16 la15
      ) fun J13 =>
        if v11 ≤ (la4 (v2).toNatClampNeg) then
          J13 v11
        else
          J13 (la4 (v2).toNatClampNeg)
    else
      jl (v2 + (1 : Int32)) fun v10 =>
      rec1 v10 v3 la4
def fX4_take (lk : Nat → Int32) (la : Nat → Int32) (lots : Int32) (us : Nat → Int32) (p1 : Int32) (p2 : Int32) : Option (Int32 × (Nat → Int32) × (Nat → Int32)) :=
  gl3 (sX4_take_rec1 lk lots us p1 p2) gFU (0 : Int32) (0 : Int32) la

def sX4_unloadPallet_rec1 (pk : Nat → Int32) (pa : Nat → Int32) (pd : Nat → Int32) (onp : Int32) (p1 : Int32) (rec1 : Int32 → (Nat → Int32) → (Nat → Int32) → (Nat → Int32) → Int32 → (Nat → Int32) → Option ((Nat → Int32) × (Nat → Int32) × (Nat → Int32) × Int32 × Int32 × (Nat → Int32))) (v2 : Int32) (lk3 : Nat → Int32) (la4 : Nat → Int32) (ll5 : Nat → Int32) (lots6 : Int32) (br7 : Nat → Int32) : Option ((Nat → Int32) × (Nat → Int32) × (Nat → Int32) × Int32 × Int32 × (Nat → Int32)) :=
  if onp ≤ v2 then
    some (lk3, la4, ll5, lots6, (0 : Int32), br7)
  else
    gd (inB v2 6) <|
    bd5 (fX4_addLot lk3 la4 ll5 lots6 br7 (pk (v2).toNatClampNeg) (pa (v2).toNatClampNeg) (p1 + (pd (v2).toNatClampNeg))) fun lk10 la11 ll12 lots13 br14 =>
    jl (v2 + (1 : Int32)) fun v16 =>
    rec1 v16 lk10 la11 ll12 lots13 br14
def fX4_unloadPallet (lk : Nat → Int32) (la : Nat → Int32) (ll : Nat → Int32) (lots : Int32) (pk : Nat → Int32) (pa : Nat → Int32) (pd : Nat → Int32) (onp : Int32) (br : Nat → Int32) (p1 : Int32) : Option ((Nat → Int32) × (Nat → Int32) × (Nat → Int32) × Int32 × Int32 × (Nat → Int32)) :=
  gl6 (sX4_unloadPallet_rec1 pk pa pd onp p1) gFU (0 : Int32) lk la ll lots br

def fX2_add (zs : Nat → Int32) (zd : Nat → Int32) (zn : Nat → Int32) (zt : Nat → Int32) (zl : Nat → Int32) (zc : Nat → Int32) (nm : Int32) (p1 : Int32) (p2 : Int32) (p3 : Int32) : Option ((Nat → Int32) × (Nat → Int32) × (Nat → Int32) × (Nat → Int32) × (Nat → Int32) × (Nat → Int32) × Int32) :=
  if nm < (17 : Int32) then
    gd (inB nm 17) <|
    jl (upd zs (nm).toNatClampNeg p1) fun zs3 =>
    jl (upd zd (nm).toNatClampNeg p2) fun zd4 =>
    jl (upd zn (nm).toNatClampNeg p3) fun zn5 =>
    jl (upd zt (nm).toNatClampNeg (0 : Int32)) fun zt6 =>
    jl (upd zl (nm).toNatClampNeg (0 : Int32)) fun zl7 =>
    jl (upd zc (nm).toNatClampNeg (-1 : Int32)) fun zc8 =>
    jl (nm + (1 : Int32)) fun v9 =>
    some (zs3, zd4, zn5, zt6, zl7, zc8, v9)
  else
    some (zs, zd, zn, zt, zl, zc, nm)

def sX2_anyAwaited_rec1 (zt : Nat → Int32) (nm : Int32) (rec1 : Int32 → Option (Int32)) (v2 : Int32) : Option (Int32) :=
  if nm ≤ v2 then
    some (0 : Int32)
  else
    gd (inB v2 17) <|
    if (zt (v2).toNatClampNeg) = 0 then
      some (1 : Int32)
    else
      if (zt (v2).toNatClampNeg) = (1 : Int32) then
        some (1 : Int32)
      else
        jl (v2 + (1 : Int32)) fun v7 =>
        rec1 v7
def fX2_anyAwaited (zt : Nat → Int32) (nm : Int32)  : Option (Int32) :=
  gl1 (sX2_anyAwaited_rec1 zt nm) gFU (0 : Int32)

def sX2_arrive_rec1 (zs : Nat → Int32) (zd : Nat → Int32) (zn : Nat → Int32) (nm : Int32) (p1 : Int32) (p2 : Int32) (rec1 : Int32 → Int32 → Int32 → (Nat → Int32) → (Nat → Int32) → Option (Int32 × (Nat → Int32) × (Nat → Int32))) (v2 : Int32) (v3 : Int32) (v4 : Int32) (zt5 : Nat → Int32) (zc6 : Nat → Int32) : Option (Int32 × (Nat → Int32) × (Nat → Int32)) :=
  if nm ≤ v2 then
    gd (nzB v4) <|
    some (v4, zt5, zc6)
  else
    gd (inB v2 17) <|
    if (zt5 (v2).toNatClampNeg) = 0 then
      if (zd (v2).toNatClampNeg) ≤ p1 then
        if p1 < ((zd (v2).toNatClampNeg) + (zn (v2).toNatClampNeg)) then
          mrg (fun (_ : Unit) =>
            if p2 = 0 then
              jl (upd zt5 (v2).toNatClampNeg (3 : Int32)) fun zt23 =>
              jl (v2 + (1 : Int32)) fun v24 =>
              rec1 v24 v3 (0 : Int32) zt23 zc6
            else
              jl (v2 + (1 : Int32)) fun v22 =>
              rec1 v22 v3 v4 zt5 zc6
          ) fun J15 =>
            if p2 = 0 then
              if v3 < (zs (v2).toNatClampNeg) then
                J15 ()
              else
                jl (upd zt5 (v2).toNatClampNeg (1 : Int32)) fun zt17 =>
                jl (upd zc6 (v2).toNatClampNeg p1) fun zc18 =>
                jl (v3 - (zs (v2).toNatClampNeg)) fun v19 =>
                jl (v2 + (1 : Int32)) fun v20 =>
                rec1 v20 v19 v4 zt17 zc18
            else
              J15 ()
        else
          jl (upd zt5 (v2).toNatClampNeg (3 : Int32)) fun zt25 =>
          jl (v2 + (1 : Int32)) fun v26 =>
          rec1 v26 v3 v4 zt25 zc6
      else
        jl (v2 + (1 : Int32)) fun v27 =>
        rec1 v27 v3 v4 zt5 zc6
    else
      jl (v2 + (1 : Int32)) fun v11 =>
      rec1 v11 v3 v4 zt5 zc6
def fX2_arrive (zs : Nat → Int32) (zd : Nat → Int32) (zn : Nat → Int32) (zt : Nat → Int32) (zc : Nat → Int32) (nm : Int32) (p1 : Int32) (p2 : Int32) (p3 : Int32) : Option (Int32 × (Nat → Int32) × (Nat → Int32)) :=
  gl5 (sX2_arrive_rec1 zs zd zn nm p1 p2) gFU (0 : Int32) p3 (1 : Int32) zt zc

def fX2_copyFrom (o0_zs : Nat → Int32) (o0_zd : Nat → Int32) (o0_zn : Nat → Int32) (o0_zt : Nat → Int32) (o0_zl : Nat → Int32) (o0_zc : Nat → Int32) (o0_nm : Int32)  : Option ((Nat → Int32) × (Nat → Int32) × (Nat → Int32) × (Nat → Int32) × (Nat → Int32) × (Nat → Int32) × Int32) :=
  some (o0_zs, o0_zd, o0_zn, o0_zt, o0_zl, o0_zc, o0_nm)

def sX2_guests_rec1 (zs : Nat → Int32) (zt : Nat → Int32) (nm : Int32) (rec1 : Int32 → Int32 → Option (Int32)) (v2 : Int32) (v3 : Int32) : Option (Int32) :=
  if nm ≤ v2 then
    some v3
  else
    gd (inB v2 17) <|
    if (zt (v2).toNatClampNeg) = (1 : Int32) then
      jl (v3 + (zs (v2).toNatClampNeg)) fun v8 =>
      jl (v2 + (1 : Int32)) fun v9 =>
      rec1 v9 v8
    else
      jl (v2 + (1 : Int32)) fun v7 =>
      rec1 v7 v3
def fX2_guests (zs : Nat → Int32) (zt : Nat → Int32) (nm : Int32)  : Option (Int32) :=
  gl2 (sX2_guests_rec1 zs zt nm) gFU (0 : Int32) (0 : Int32)

def fX2_has (nm : Int32) (p1 : Int32) : Option (Int32) :=
  if p1 < 0 then
    some (0 : Int32)
  else
    if nm ≤ p1 then
      some (0 : Int32)
    else
      some (1 : Int32)

def fX2_hasStatus (zt : Nat → Int32) (nm : Int32) (p1 : Int32) (p2 : Int32) : Option (Int32) :=
  bd1 (fX2_has nm p1) fun r1 =>
  if r1 = 0 then
    some (0 : Int32)
  else
    gd (inB p1 17) <|
    if (zt (p1).toNatClampNeg) = p2 then
      some (1 : Int32)
    else
      some (0 : Int32)

def fX2_isAwaited (zt : Nat → Int32) (nm : Int32) (p1 : Int32) : Option (Int32) :=
  bd1 (fX2_has nm p1) fun r1 =>
  if r1 = 0 then
    some (0 : Int32)
  else
    gd (inB p1 17) <|
    if (zt (p1).toNatClampNeg) = 0 then
      some (1 : Int32)
    else
      if (zt (p1).toNatClampNeg) = (1 : Int32) then
        some (1 : Int32)
      else
        some (0 : Int32)

def sX2_leave_rec1 (zn : Nat → Int32) (zl : Nat → Int32) (nm : Int32) (rec1 : Int32 → (Nat → Int32) → Option ((Nat → Int32))) (v2 : Int32) (zt3 : Nat → Int32) : Option ((Nat → Int32)) :=
  if nm ≤ v2 then
    some zt3
  else
    gd (inB v2 17) <|
    if (zt3 (v2).toNatClampNeg) = (1 : Int32) then
      if (zl (v2).toNatClampNeg) < (zn (v2).toNatClampNeg) then
        jl (v2 + (1 : Int32)) fun v9 =>
        rec1 v9 zt3
      else
        jl (upd zt3 (v2).toNatClampNeg (2 : Int32)) fun zt10 =>
        jl (v2 + (1 : Int32)) fun v11 =>
        rec1 v11 zt10
    else
      jl (v2 + (1 : Int32)) fun v7 =>
      rec1 v7 zt3
def fX2_leave (zn : Nat → Int32) (zt : Nat → Int32) (zl : Nat → Int32) (nm : Int32)  : Option ((Nat → Int32)) :=
  gl2 (sX2_leave_rec1 zn zl nm) gFU (0 : Int32) zt

def sX2_sleepOnce_rec1 (zt : Nat → Int32) (nm : Int32) (rec1 : Int32 → (Nat → Int32) → Option ((Nat → Int32))) (v2 : Int32) (zl3 : Nat → Int32) : Option ((Nat → Int32)) :=
  if nm ≤ v2 then
    some zl3
  else
    gd (inB v2 17) <|
    if (zt (v2).toNatClampNeg) = (1 : Int32) then
      jl (upd zl3 (v2).toNatClampNeg ((zl3 (v2).toNatClampNeg) + (1 : Int32))) fun zl8 =>
      jl (v2 + (1 : Int32)) fun v9 =>
      rec1 v9 zl8
    else
      jl (v2 + (1 : Int32)) fun v7 =>
      rec1 v7 zl3
def fX2_sleepOnce (zt : Nat → Int32) (zl : Nat → Int32) (nm : Int32)  : Option ((Nat → Int32)) :=
  gl2 (sX2_sleepOnce_rec1 zt nm) gFU (0 : Int32) zl

def sX2_withStatus_rec1 (zt : Nat → Int32) (nm : Int32) (p1 : Int32) (rec1 : Int32 → Int32 → Option (Int32)) (v2 : Int32) (v3 : Int32) : Option (Int32) :=
  if nm ≤ v2 then
    some v3
  else
    gd (inB v2 17) <|
    if (zt (v2).toNatClampNeg) = p1 then
      jl (v3 + (1 : Int32)) fun v8 =>
      jl (v2 + (1 : Int32)) fun v9 =>
      rec1 v9 v8
    else
      jl (v2 + (1 : Int32)) fun v7 =>
      rec1 v7 v3
def fX2_withStatus (zt : Nat → Int32) (nm : Int32) (p1 : Int32) : Option (Int32) :=
  gl2 (sX2_withStatus_rec1 zt nm p1) gFU (0 : Int32) (0 : Int32)

def fX5_append (ch : Nat → Int32) (tl : Int32) (p1 : Int32) : Option ((Nat → Int32) × Int32) :=
  if (60 : Int32) ≤ tl then
    some (ch, tl)
  else
    gd (inB tl 60) <|
    jl (upd ch (tl).toNatClampNeg (vp_nar .char (((p1).toUInt32 % 65536).toInt32))) fun ch3 =>
    jl (tl + (1 : Int32)) fun v4 =>
    some (ch3, v4)

def fX5_at (ch : Nat → Int32) (tl : Int32) (p1 : Int32) : Option (Int32) :=
  if p1 < 0 then
    some (0 : Int32)
  else
    if tl ≤ p1 then
      some (0 : Int32)
    else
      gd (inB p1 60) <|
      gd (ncB (ch (p1).toNatClampNeg)) <|
      some (ch (p1).toNatClampNeg)

def fX5_numbersOf  (p1 : Int32) : Option (Int32) :=
  if p1 = (98 : Int32) then
    some (3 : Int32)
  else
  if p1 = (102 : Int32) then
    some (0 : Int32)
  else
  if p1 = (108 : Int32) then
    some (3 : Int32)
  else
  if p1 = (110 : Int32) then
    some (1 : Int32)
  else
  if p1 = (115 : Int32) then
    some (2 : Int32)
  else
  if p1 = (120 : Int32) then
    some (1 : Int32)
  else
    some (-1 : Int32)

def fX5_passes (ch : Nat → Int32) (tl : Int32) (nx : Int32) (p1 : Int32) : Option (Int32 × Int32) :=
  bd1 (fX5_at ch tl nx) fun r1 =>
  if r1 = p1 then
    jl (nx + (1 : Int32)) fun v4 =>
    some ((1 : Int32), v4)
  else
    some ((0 : Int32), nx)

def sX5_readNumber_rec1 (ch : Nat → Int32) (tl : Int32) (rec1 : Int32 → Int32 → Int32 → Option (Int32 × Int32)) (v2 : Int32) (v3 : Int32) (nx4 : Int32) : Option (Int32 × Int32) :=
  if (3 : Int32) ≤ v2 then
    some (v3, nx4)
  else
    bd1 (fX5_at ch tl nx4) fun r6 =>
    if r6 < (48 : Int32) then
      some (v3, nx4)
    else
      if r6 ≤ (57 : Int32) then
        jl (((if v3 < (0 : Int32) then (0 : Int32) else v3) * (10 : Int32)) + (r6 - (48 : Int32))) fun v10 =>
        jl (nx4 + (1 : Int32)) fun v11 =>
        jl (v2 + (1 : Int32)) fun v12 =>
        rec1 v12 v10 v11
      else
        some (v3, nx4)
def fX5_readNumber (ch : Nat → Int32) (tl : Int32) (nx : Int32)  : Option (Int32 × Int32) :=
  gl3 (sX5_readNumber_rec1 ch tl) gFU (0 : Int32) (-1 : Int32) nx

def sX5_readCommand_rec8 (ch : Nat → Int32) (tl : Int32) (r1 : Int32) (r5 : Int32) (rec8 : Int32 → (Nat → Int32) → Int32 → Option (Int32 × (Nat → Int32) × Int32 × Int32)) (v9 : Int32) (nu10 : Nat → Int32) (nx11 : Int32) : Option (Int32 × (Nat → Int32) × Int32 × Int32) :=
  mrg (fun (_ : Unit) =>
    bd2 (fX5_passes ch tl nx11 (59 : Int32)) fun r29 nx30 =>
    gd (nzB r29) <|
    some (r29, nu10, r1, nx30)
  ) fun J13 =>
    if r5 ≤ v9 then
      J13 ()
    else
      if (3 : Int32) ≤ v9 then
        J13 ()
      else
        mrg (fun (nx21 : Int32) =>
          bd2 (fX5_readNumber ch tl nx21) fun r22 nx23 =>
          gd (inB v9 3) <|
          jl (upd nu10 (v9).toNatClampNeg r22) fun nu26 =>
          if 0 ≤ (nu26 (v9).toNatClampNeg) then
            jl (v9 + (1 : Int32)) fun v28 =>
            rec8 v28 nu26 nx23
          else
            some ((0 : Int32), nu26, r1, nx23)
        ) fun J16 =>
          if v9 ≤ 0 then
            J16 nx11
          else
            bd2 (fX5_passes ch tl nx11 (44 : Int32)) fun r17 nx18 =>
            if r17 = 0 then
              some ((0 : Int32), nu10, r1, nx18)
            else
              J16 nx18
def fX5_readCommand (ch : Nat → Int32) (tl : Int32) (nu : Nat → Int32) (p1 : Int32) : Option (Int32 × (Nat → Int32) × Int32 × Int32) :=
  bd1 (fX5_at ch tl p1) fun r1 =>
  gd (ncB r1) <|
  jl (p1 + (1 : Int32)) fun v4 =>
  bd1 (fX5_numbersOf r1) fun r5 =>
  if 0 ≤ r5 then
    gl3 (sX5_readCommand_rec8 ch tl r1 r5) gFU (0 : Int32) nu v4
  else
    some ((0 : Int32), nu, r1, v4)

def fX1_isStorm (sto : Nat → Int32) (dy : Int32)  : Option (Int32) :=
  if (396 : Int32) ≤ dy then
    some (0 : Int32)
  else
    gd (inB dy 396) <|
    if (sto (dy).toNatClampNeg) = 0 then
      some (0 : Int32)
    else
      some (1 : Int32)

def fX1_bringPallet (lk : Nat → Int32) (la : Nat → Int32) (ll : Nat → Int32) (lots : Int32) (pk : Nat → Int32) (pa : Nat → Int32) (pd : Nat → Int32) (onp : Int32) (br : Nat → Int32) (sto : Nat → Int32) (sg : Nat → Int32) (dy : Int32) (fl : Int32)  : Option (Int32 × (Nat → Int32) × (Nat → Int32) × (Nat → Int32) × Int32 × Int32 × (Nat → Int32) × Int32) :=
  if onp = 0 then
    some ((-2 : Int32), lk, la, ll, lots, onp, br, fl)
  else
    bd1 (fX1_isStorm sto dy) fun r2 =>
    if r2 = 0 then
      gd (inB (3 : Int32) 4) <|
      if fl < (sg ((3 : Int32)).toNatClampNeg) then
        if (lots + onp) ≤ (20 : Int32) then
          bd6 (fX4_unloadPallet lk la ll lots pk pa pd onp br dy) fun lk8 la9 ll10 lots11 onp12 br13 =>
          jl (fl + (1 : Int32)) fun v15 =>
          some (onp, lk8, la9, ll10, lots11, onp12, br13, v15)
        else
          some ((-3 : Int32), lk, la, ll, lots, onp, br, fl)
      else
        some ((-2 : Int32), lk, la, ll, lots, onp, br, fl)
    else
      some ((-2 : Int32), lk, la, ll, lots, onp, br, fl)

def fX1_callOff (zt : Nat → Int32) (nm : Int32) (p1 : Int32) : Option (Int32 × (Nat → Int32)) :=
  bd1 (fX2_has nm p1) fun r1 =>
  if r1 = 0 then
    some ((-1 : Int32), zt)
  else
    gd (inB p1 17) <|
    if (zt (p1).toNatClampNeg) = 0 then
      jl (upd zt (p1).toNatClampNeg (3 : Int32)) fun zt6 =>
      bd1 (fX2_withStatus zt6 nm (0 : Int32)) fun r7 =>
      some (r7, zt6)
    else
      some ((-2 : Int32), zt)

def fX1_changeSetting (sg : Nat → Int32) (p1 : Int32) (p2 : Int32) : Option (Int32 × (Nat → Int32)) :=
  if p1 < 0 then
    some ((-1 : Int32), sg)
  else
    if (4 : Int32) ≤ p1 then
      some ((-1 : Int32), sg)
    else
      gd (inB p1 4) <|
      if p2 < (gLowN (p1).toNatClampNeg) then
        some ((-1 : Int32), sg)
      else
        if p2 ≤ (gHighN (p1).toNatClampNeg) then
          jl (sg (p1).toNatClampNeg) fun v6 =>
          jl (upd sg (p1).toNatClampNeg p2) fun sg7 =>
          some (v6, sg7)
        else
          some ((-1 : Int32), sg)

def fX1_copyFrom (o0_lk : Nat → Int32) (o0_la : Nat → Int32) (o0_ll : Nat → Int32) (o0_lots : Int32) (o0_pk : Nat → Int32) (o0_pa : Nat → Int32) (o0_pd : Nat → Int32) (o0_onp : Int32) (o0_br : Nat → Int32) (o0_us : Nat → Int32) (o0_sp : Nat → Int32) (o0_zs : Nat → Int32) (o0_zd : Nat → Int32) (o0_zn : Nat → Int32) (o0_zt : Nat → Int32) (o0_zl : Nat → Int32) (o0_zc : Nat → Int32) (o0_nm : Int32) (o0_sto : Nat → Int32) (o0_sg : Nat → Int32) (o0_dy : Int32) (o0_fl : Int32) (o0_hu : Int32) (o0_cn : Int32) (o0_gn : Int32) (o0_cs : Int32)  : Option ((Nat → Int32) × (Nat → Int32) × (Nat → Int32) × Int32 × (Nat → Int32) × (Nat → Int32) × (Nat → Int32) × Int32 × (Nat → Int32) × (Nat → Int32) × (Nat → Int32) × (Nat → Int32) × (Nat → Int32) × (Nat → Int32) × (Nat → Int32) × (Nat → Int32) × (Nat → Int32) × Int32 × (Nat → Int32) × (Nat → Int32) × Int32 × Int32 × Int32 × Int32 × Int32 × Int32) :=
  bd11 (fX4_copyFrom o0_lk o0_la o0_ll o0_lots o0_pk o0_pa o0_pd o0_onp o0_br o0_us o0_sp) fun lk1 la2 ll3 lots4 pk5 pa6 pd7 onp8 br9 us10 sp11 =>
  bd7 (fX2_copyFrom o0_zs o0_zd o0_zn o0_zt o0_zl o0_zc o0_nm) fun zs13 zd14 zn15 zt16 zl17 zc18 nm19 =>
  gd (fzB o0_sto 396) <|
  some (lk1, la2, ll3, lots4, pk5, pa6, pd7, onp8, br9, us10, sp11, zs13, zd14, zn15, zt16, zl17, zc18, nm19, o0_sto, o0_sg, o0_dy, o0_fl, o0_hu, o0_cn, o0_gn, o0_cs)

def fX1_rationFor (sg : Nat → Int32) (p1 : Int32) (p2 : Int32) : Option (Int32) :=
  gd (inB (1 : Int32) 4) <|
  jl (sg ((1 : Int32)).toNatClampNeg) fun v2 =>
  gd (inB (2 : Int32) 4) <|
  if (((sg ((2 : Int32)).toNatClampNeg) * p1) * v2) ≤ p2 then
    some v2
  else
    some (1 : Int32)

def fX1_gasFor  (p1 : Int32) (p2 : Int32) : Option (Int32) :=
  if p1 = 0 then
    some (0 : Int32)
  else
    if p2 = 0 then
      some (((p1 + (3 : Int32)) / (4 : Int32)) + (0 : Int32))
    else
      some (((p1 + (3 : Int32)) / (4 : Int32)) + (1 : Int32))

def fX1_passNight (lk : Nat → Int32) (la : Nat → Int32) (ll : Nat → Int32) (lots : Int32) (us : Nat → Int32) (sp : Nat → Int32) (zs : Nat → Int32) (zd : Nat → Int32) (zn : Nat → Int32) (zt : Nat → Int32) (zl : Nat → Int32) (zc : Nat → Int32) (nm : Int32) (sto : Nat → Int32) (sg : Nat → Int32) (dy : Int32) (hu : Int32) (cn : Int32) (gn : Int32) (cs : Int32)  : Option (Int32 × (Nat → Int32) × (Nat → Int32) × (Nat → Int32) × Int32 × (Nat → Int32) × (Nat → Int32) × (Nat → Int32) × (Nat → Int32) × (Nat → Int32) × Int32 × Int32 × Int32 × Int32 × Int32) :=
  bd1 (fX1_isStorm sto dy) fun r1 =>
  mrg (fun (zt7 : Nat → Int32) =>
    gd (inB (0 : Int32) 4) <|
    bd1 (fX2_guests zs zt7 nm) fun r9 =>
    bd3 (fX2_arrive zs zd zn zt7 zc nm dy r1 ((sg ((0 : Int32)).toNatClampNeg) - r9)) fun r11 zt12 zc13 =>
    bd1 (fX2_guests zs zt12 nm) fun r15 =>
    bd1 (fX4_stock lk la lots (0 : Int32)) fun r17 =>
    bd1 (fX1_rationFor sg r15 r17) fun r19 =>
    gd (inB (1 : Int32) 4) <|
    mrg (fun (cs25 : Int32) =>
      bd3 (fX4_take lk la lots us (1 : Int32) r15) fun r26 la27 us28 =>
      jl (((r15 * r19) + r15) - r26) fun v30 =>
      bd3 (fX4_take lk la27 lots us28 (0 : Int32) v30) fun r31 la32 us33 =>
      jl (if (v30 - r31) < r15 then (v30 - r31) else r15) fun v35 =>
      bd1 (fX1_gasFor r15 r1) fun r36 =>
      bd3 (fX4_take lk la32 lots us33 (2 : Int32) r36) fun r38 la39 us40 =>
      mrg (fun (v44 : Int32) =>
        jl (hu + v35) fun v45 =>
        mrg (fun (cn49 : Int32) =>
          jl (gn + r15) fun v50 =>
          bd1 (fX2_sleepOnce zt12 zl nm) fun zl51 =>
          bd2 (fX4_spoil lk la39 ll lots sp dy) fun la53 sp54 =>
          bd4 (fX4_dropEmptyLots lk la53 ll lots) fun lk56 la57 ll58 lots59 =>
          jl (dy + (1 : Int32)) fun v61 =>
          if r11 = 0 then
            some ((0 : Int32), lk56, la57, ll58, lots59, us40, sp54, zt12, zl51, zc13, v61, v45, cn49, v50, cs25)
          else
            if v35 = 0 then
              if v44 = 0 then
                some ((1 : Int32), lk56, la57, ll58, lots59, us40, sp54, zt12, zl51, zc13, v61, v45, cn49, v50, cs25)
              else
                some ((0 : Int32), lk56, la57, ll58, lots59, us40, sp54, zt12, zl51, zc13, v61, v45, cn49, v50, cs25)
            else
              some ((0 : Int32), lk56, la57, ll58, lots59, us40, sp54, zt12, zl51, zc13, v61, v45, cn49, v50, cs25)
        ) fun J47 =>
          if v44 = 0 then
            J47 cn
          else
            jl (cn + (1 : Int32)) fun v48 =>
            J47 v48
      ) fun J43 =>
        if r36 ≤ r38 then
          J43 (0 : Int32)
        else
          J43 (1 : Int32)
    ) fun J23 =>
      if (sg ((1 : Int32)).toNatClampNeg) ≤ r19 then
        J23 cs
      else
        jl (cs + (1 : Int32)) fun v24 =>
        J23 v24
  ) fun J4 =>
    if r1 = 0 then
      bd1 (fX2_leave zn zt zl nm) fun zt5 =>
      J4 zt5
    else
      J4 zt

def sX1_dayWhenGone_rec1 (zs : Nat → Int32) (zd : Nat → Int32) (zn : Nat → Int32) (nm : Int32) (sto : Nat → Int32) (sg : Nat → Int32) (p1 : Int32) (rec1 : Int32 → (Nat → Int32) → (Nat → Int32) → (Nat → Int32) → Int32 → (Nat → Int32) → (Nat → Int32) → (Nat → Int32) → (Nat → Int32) → (Nat → Int32) → Int32 → Int32 → Int32 → Int32 → Int32 → Option (Int32 × (Nat → Int32) × (Nat → Int32) × (Nat → Int32) × Int32 × (Nat → Int32) × (Nat → Int32) × (Nat → Int32) × (Nat → Int32) × (Nat → Int32) × Int32 × Int32 × Int32 × Int32 × Int32)) (v2 : Int32) (lk3 : Nat → Int32) (la4 : Nat → Int32) (ll5 : Nat → Int32) (lots6 : Int32) (us7 : Nat → Int32) (sp8 : Nat → Int32) (zt9 : Nat → Int32) (zl10 : Nat → Int32) (zc11 : Nat → Int32) (dy12 : Int32) (hu13 : Int32) (cn14 : Int32) (gn15 : Int32) (cs16 : Int32) : Option (Int32 × (Nat → Int32) × (Nat → Int32) × (Nat → Int32) × Int32 × (Nat → Int32) × (Nat → Int32) × (Nat → Int32) × (Nat → Int32) × (Nat → Int32) × Int32 × Int32 × Int32 × Int32 × Int32) :=
  mrg (fun (_ : Unit) =>
    bd1 (fX2_hasStatus zt9 nm p1 (2 : Int32)) fun r39 =>
    if r39 = 0 then
      some ((-4 : Int32), lk3, la4, ll5, lots6, us7, sp8, zt9, zl10, zc11, dy12, hu13, cn14, gn15, cs16)
    else
      some ((dy12 - (1 : Int32)), lk3, la4, ll5, lots6, us7, sp8, zt9, zl10, zc11, dy12, hu13, cn14, gn15, cs16)
  ) fun J18 =>
    if (1000 : Int32) ≤ v2 then
      J18 ()
    else
      bd1 (fX2_isAwaited zt9 nm p1) fun r19 =>
      if r19 = 0 then
        J18 ()
      else
        bd15 (fX1_passNight lk3 la4 ll5 lots6 us7 sp8 zs zd zn zt9 zl10 zc11 nm sto sg dy12 hu13 cn14 gn15 cs16) fun r22 lk23 la24 ll25 lots26 us27 sp28 zt29 zl30 zc31 dy32 hu33 cn34 gn35 cs36 =>
        jl (v2 + (1 : Int32)) fun v38 =>
        rec1 v38 lk23 la24 ll25 lots26 us27 sp28 zt29 zl30 zc31 dy32 hu33 cn34 gn35 cs36
def fX1_dayWhenGone (lk : Nat → Int32) (la : Nat → Int32) (ll : Nat → Int32) (lots : Int32) (us : Nat → Int32) (sp : Nat → Int32) (zs : Nat → Int32) (zd : Nat → Int32) (zn : Nat → Int32) (zt : Nat → Int32) (zl : Nat → Int32) (zc : Nat → Int32) (nm : Int32) (sto : Nat → Int32) (sg : Nat → Int32) (dy : Int32) (hu : Int32) (cn : Int32) (gn : Int32) (cs : Int32) (p1 : Int32) : Option (Int32 × (Nat → Int32) × (Nat → Int32) × (Nat → Int32) × Int32 × (Nat → Int32) × (Nat → Int32) × (Nat → Int32) × (Nat → Int32) × (Nat → Int32) × Int32 × Int32 × Int32 × Int32 × Int32) :=
  gl15 (sX1_dayWhenGone_rec1 zs zd zn nm sto sg p1) gFU (0 : Int32) lk la ll lots us sp zt zl zc dy hu cn gn cs

def sX1_dayWhenOut_rec1 (zs : Nat → Int32) (zd : Nat → Int32) (zn : Nat → Int32) (nm : Int32) (sto : Nat → Int32) (sg : Nat → Int32) (p1 : Int32) (rec1 : Int32 → (Nat → Int32) → (Nat → Int32) → (Nat → Int32) → Int32 → (Nat → Int32) → (Nat → Int32) → (Nat → Int32) → (Nat → Int32) → (Nat → Int32) → Int32 → Int32 → Int32 → Int32 → Int32 → Option (Int32 × (Nat → Int32) × (Nat → Int32) × (Nat → Int32) × Int32 × (Nat → Int32) × (Nat → Int32) × (Nat → Int32) × (Nat → Int32) × (Nat → Int32) × Int32 × Int32 × Int32 × Int32 × Int32)) (v2 : Int32) (lk3 : Nat → Int32) (la4 : Nat → Int32) (ll5 : Nat → Int32) (lots6 : Int32) (us7 : Nat → Int32) (sp8 : Nat → Int32) (zt9 : Nat → Int32) (zl10 : Nat → Int32) (zc11 : Nat → Int32) (dy12 : Int32) (hu13 : Int32) (cn14 : Int32) (gn15 : Int32) (cs16 : Int32) : Option (Int32 × (Nat → Int32) × (Nat → Int32) × (Nat → Int32) × Int32 × (Nat → Int32) × (Nat → Int32) × (Nat → Int32) × (Nat → Int32) × (Nat → Int32) × Int32 × Int32 × Int32 × Int32 × Int32) :=
  if (1000 : Int32) ≤ v2 then
    some ((-4 : Int32), lk3, la4, ll5, lots6, us7, sp8, zt9, zl10, zc11, dy12, hu13, cn14, gn15, cs16)
  else
    bd1 (fX2_anyAwaited zt9 nm) fun r18 =>
    if r18 = 0 then
      some ((-4 : Int32), lk3, la4, ll5, lots6, us7, sp8, zt9, zl10, zc11, dy12, hu13, cn14, gn15, cs16)
    else
      bd15 (fX1_passNight lk3 la4 ll5 lots6 us7 sp8 zs zd zn zt9 zl10 zc11 nm sto sg dy12 hu13 cn14 gn15 cs16) fun r21 lk22 la23 ll24 lots25 us26 sp27 zt28 zl29 zc30 dy31 hu32 cn33 gn34 cs35 =>
      bd1 (fX4_stock lk22 la23 lots25 p1) fun r37 =>
      if r37 = 0 then
        some ((dy31 - (1 : Int32)), lk22, la23, ll24, lots25, us26, sp27, zt28, zl29, zc30, dy31, hu32, cn33, gn34, cs35)
      else
        jl (v2 + (1 : Int32)) fun v40 =>
        rec1 v40 lk22 la23 ll24 lots25 us26 sp27 zt28 zl29 zc30 dy31 hu32 cn33 gn34 cs35
def fX1_dayWhenOut (lk : Nat → Int32) (la : Nat → Int32) (ll : Nat → Int32) (lots : Int32) (us : Nat → Int32) (sp : Nat → Int32) (zs : Nat → Int32) (zd : Nat → Int32) (zn : Nat → Int32) (zt : Nat → Int32) (zl : Nat → Int32) (zc : Nat → Int32) (nm : Int32) (sto : Nat → Int32) (sg : Nat → Int32) (dy : Int32) (hu : Int32) (cn : Int32) (gn : Int32) (cs : Int32) (p1 : Int32) : Option (Int32 × (Nat → Int32) × (Nat → Int32) × (Nat → Int32) × Int32 × (Nat → Int32) × (Nat → Int32) × (Nat → Int32) × (Nat → Int32) × (Nat → Int32) × Int32 × Int32 × Int32 × Int32 × Int32) :=
  gl15 (sX1_dayWhenOut_rec1 zs zd zn nm sto sg p1) gFU (0 : Int32) lk la ll lots us sp zt zl zc dy hu cn gn cs

def fX1_mayBeBooked (dy : Int32) (p1 : Int32) (p2 : Int32) (p3 : Int32) : Option (Int32) :=
  if p1 < (1 : Int32) then
    some (0 : Int32)
  else
    if (6 : Int32) < p1 then
      some (0 : Int32)
    else
      if p2 < dy then
        some (0 : Int32)
      else
        if (365 : Int32) < p2 then
          some (0 : Int32)
        else
          if p3 < (1 : Int32) then
            some (0 : Int32)
          else
            if (9 : Int32) < p3 then
              some (0 : Int32)
            else
              some (1 : Int32)

def sX1_passNights_rec4 (zs : Nat → Int32) (zd : Nat → Int32) (zn : Nat → Int32) (nm : Int32) (sto : Nat → Int32) (sg : Nat → Int32) (hu : Int32) (p1 : Int32) (rec4 : Int32 → (Nat → Int32) → (Nat → Int32) → (Nat → Int32) → Int32 → (Nat → Int32) → (Nat → Int32) → (Nat → Int32) → (Nat → Int32) → (Nat → Int32) → Int32 → Int32 → Int32 → Int32 → Int32 → Option (Int32 × (Nat → Int32) × (Nat → Int32) × (Nat → Int32) × Int32 × (Nat → Int32) × (Nat → Int32) × (Nat → Int32) × (Nat → Int32) × (Nat → Int32) × Int32 × Int32 × Int32 × Int32 × Int32)) (v5 : Int32) (lk6 : Nat → Int32) (la7 : Nat → Int32) (ll8 : Nat → Int32) (lots9 : Int32) (us10 : Nat → Int32) (sp11 : Nat → Int32) (zt12 : Nat → Int32) (zl13 : Nat → Int32) (zc14 : Nat → Int32) (dy15 : Int32) (hu16 : Int32) (cn17 : Int32) (gn18 : Int32) (cs19 : Int32) : Option (Int32 × (Nat → Int32) × (Nat → Int32) × (Nat → Int32) × Int32 × (Nat → Int32) × (Nat → Int32) × (Nat → Int32) × (Nat → Int32) × (Nat → Int32) × Int32 × Int32 × Int32 × Int32 × Int32) :=
  if p1 ≤ v5 then
    some ((hu16 - hu), lk6, la7, ll8, lots9, us10, sp11, zt12, zl13, zc14, dy15, hu16, cn17, gn18, cs19)
  else
    bd15 (fX1_passNight lk6 la7 ll8 lots9 us10 sp11 zs zd zn zt12 zl13 zc14 nm sto sg dy15 hu16 cn17 gn18 cs19) fun r21 lk22 la23 ll24 lots25 us26 sp27 zt28 zl29 zc30 dy31 hu32 cn33 gn34 cs35 =>
    jl (v5 + (1 : Int32)) fun v37 =>
    rec4 v37 lk22 la23 ll24 lots25 us26 sp27 zt28 zl29 zc30 dy31 hu32 cn33 gn34 cs35
def fX1_passNights (lk : Nat → Int32) (la : Nat → Int32) (ll : Nat → Int32) (lots : Int32) (us : Nat → Int32) (sp : Nat → Int32) (zs : Nat → Int32) (zd : Nat → Int32) (zn : Nat → Int32) (zt : Nat → Int32) (zl : Nat → Int32) (zc : Nat → Int32) (nm : Int32) (sto : Nat → Int32) (sg : Nat → Int32) (dy : Int32) (hu : Int32) (cn : Int32) (gn : Int32) (cs : Int32) (p1 : Int32) : Option (Int32 × (Nat → Int32) × (Nat → Int32) × (Nat → Int32) × Int32 × (Nat → Int32) × (Nat → Int32) × (Nat → Int32) × (Nat → Int32) × (Nat → Int32) × Int32 × Int32 × Int32 × Int32 × Int32) :=
  if p1 < (1 : Int32) then
    some ((-1 : Int32), lk, la, ll, lots, us, sp, zt, zl, zc, dy, hu, cn, gn, cs)
  else
    if p1 ≤ (60 : Int32) then
      if (dy + p1) ≤ (365 : Int32) then
        gl15 (sX1_passNights_rec4 zs zd zn nm sto sg hu p1) gFU (0 : Int32) lk la ll lots us sp zt zl zc dy hu cn gn cs
      else
        some ((-3 : Int32), lk, la, ll, lots, us, sp, zt, zl, zc, dy, hu, cn, gn, cs)
    else
      some ((-1 : Int32), lk, la, ll, lots, us, sp, zt, zl, zc, dy, hu, cn, gn, cs)

def fX1_putOnPallet (pk : Nat → Int32) (pa : Nat → Int32) (pd : Nat → Int32) (onp : Int32) (p1 : Int32) (p2 : Int32) (p3 : Int32) : Option (Int32 × (Nat → Int32) × (Nat → Int32) × (Nat → Int32) × Int32) :=
  bd1 (fX4_isKind p1) fun r1 =>
  if r1 = 0 then
    some ((-1 : Int32), pk, pa, pd, onp)
  else
    if p2 < (1 : Int32) then
      some ((-1 : Int32), pk, pa, pd, onp)
    else
      if (999 : Int32) < p2 then
        some ((-1 : Int32), pk, pa, pd, onp)
      else
        if p3 < 0 then
          some ((-1 : Int32), pk, pa, pd, onp)
        else
          if p3 ≤ (365 : Int32) then
            if onp < (6 : Int32) then
              bd4 (fX4_addToPallet pk pa pd onp p1 p2 p3) fun pk9 pa10 pd11 onp12 =>
              some (onp12, pk9, pa10, pd11, onp12)
            else
              some ((-3 : Int32), pk, pa, pd, onp)
          else
            some ((-1 : Int32), pk, pa, pd, onp)

def fX1_settingAt (sg : Nat → Int32) (p1 : Int32) : Option (Int32) :=
  if p1 < 0 then
    some (-1 : Int32)
  else
    if (4 : Int32) ≤ p1 then
      some (-1 : Int32)
    else
      gd (inB p1 4) <|
      some (sg (p1).toNatClampNeg)

def sX1_wouldSuffice_rec9 (sto : Nat → Int32) (sg : Nat → Int32) (zs1 : Nat → Int32) (zd2 : Nat → Int32) (zn3 : Nat → Int32) (nm7 : Int32) (rec9 : Int32 → (Nat → Int32) → (Nat → Int32) → (Nat → Int32) → Int32 → (Nat → Int32) → (Nat → Int32) → (Nat → Int32) → (Nat → Int32) → (Nat → Int32) → Int32 → Int32 → Int32 → Int32 → Int32 → Option (Int32 × (Nat → Int32) × (Nat → Int32) × (Nat → Int32) × Int32 × (Nat → Int32) × (Nat → Int32) × (Nat → Int32) × (Nat → Int32) × (Nat → Int32) × (Nat → Int32) × (Nat → Int32) × (Nat → Int32) × Int32 × Int32 × Int32 × Int32 × Int32 × Int32)) (v10 : Int32) (lk11 : Nat → Int32) (la12 : Nat → Int32) (ll13 : Nat → Int32) (lots14 : Int32) (us15 : Nat → Int32) (sp16 : Nat → Int32) (zt17 : Nat → Int32) (zl18 : Nat → Int32) (zc19 : Nat → Int32) (dy20 : Int32) (hu21 : Int32) (cn22 : Int32) (gn23 : Int32) (cs24 : Int32) : Option (Int32 × (Nat → Int32) × (Nat → Int32) × (Nat → Int32) × Int32 × (Nat → Int32) × (Nat → Int32) × (Nat → Int32) × (Nat → Int32) × (Nat → Int32) × (Nat → Int32) × (Nat → Int32) × (Nat → Int32) × Int32 × Int32 × Int32 × Int32 × Int32 × Int32) :=
  if (1000 : Int32) ≤ v10 then
    some ((1 : Int32), lk11, la12, ll13, lots14, us15, sp16, zs1, zd2, zn3, zt17, zl18, zc19, nm7, dy20, hu21, cn22, gn23, cs24)
  else
    bd1 (fX2_anyAwaited zt17 nm7) fun r26 =>
    if r26 = 0 then
      some ((1 : Int32), lk11, la12, ll13, lots14, us15, sp16, zs1, zd2, zn3, zt17, zl18, zc19, nm7, dy20, hu21, cn22, gn23, cs24)
    else
      bd15 (fX1_passNight lk11 la12 ll13 lots14 us15 sp16 zs1 zd2 zn3 zt17 zl18 zc19 nm7 sto sg dy20 hu21 cn22 gn23 cs24) fun r29 lk30 la31 ll32 lots33 us34 sp35 zt36 zl37 zc38 dy39 hu40 cn41 gn42 cs43 =>
      if r29 = 0 then
        some ((0 : Int32), lk30, la31, ll32, lots33, us34, sp35, zs1, zd2, zn3, zt36, zl37, zc38, nm7, dy39, hu40, cn41, gn42, cs43)
      else
        jl (v10 + (1 : Int32)) fun v46 =>
        rec9 v46 lk30 la31 ll32 lots33 us34 sp35 zt36 zl37 zc38 dy39 hu40 cn41 gn42 cs43
def fX1_wouldSuffice (lk : Nat → Int32) (la : Nat → Int32) (ll : Nat → Int32) (lots : Int32) (us : Nat → Int32) (sp : Nat → Int32) (zs : Nat → Int32) (zd : Nat → Int32) (zn : Nat → Int32) (zt : Nat → Int32) (zl : Nat → Int32) (zc : Nat → Int32) (nm : Int32) (sto : Nat → Int32) (sg : Nat → Int32) (dy : Int32) (hu : Int32) (cn : Int32) (gn : Int32) (cs : Int32) (p1 : Int32) (p2 : Int32) (p3 : Int32) : Option (Int32 × (Nat → Int32) × (Nat → Int32) × (Nat → Int32) × Int32 × (Nat → Int32) × (Nat → Int32) × (Nat → Int32) × (Nat → Int32) × (Nat → Int32) × (Nat → Int32) × (Nat → Int32) × (Nat → Int32) × Int32 × Int32 × Int32 × Int32 × Int32 × Int32) :=
  bd7 (fX2_add zs zd zn zt zl zc nm p1 p2 p3) fun zs1 zd2 zn3 zt4 zl5 zc6 nm7 =>
  gl15 (sX1_wouldSuffice_rec9 sto sg zs1 zd2 zn3 nm7) gFU (0 : Int32) lk la ll lots us sp zt4 zl5 zc6 dy hu cn gn cs

def fX1_takeBooking (lk : Nat → Int32) (la : Nat → Int32) (ll : Nat → Int32) (lots : Int32) (pk : Nat → Int32) (pa : Nat → Int32) (pd : Nat → Int32) (onp : Int32) (br : Nat → Int32) (us : Nat → Int32) (sp : Nat → Int32) (zs : Nat → Int32) (zd : Nat → Int32) (zn : Nat → Int32) (zt : Nat → Int32) (zl : Nat → Int32) (zc : Nat → Int32) (nm : Int32) (sto : Nat → Int32) (sg : Nat → Int32) (dy : Int32) (fl : Int32) (hu : Int32) (cn : Int32) (gn : Int32) (cs : Int32) (o3_lk : Nat → Int32) (o3_la : Nat → Int32) (o3_ll : Nat → Int32) (o3_lots : Int32) (o3_pk : Nat → Int32) (o3_pa : Nat → Int32) (o3_pd : Nat → Int32) (o3_onp : Int32) (o3_br : Nat → Int32) (o3_us : Nat → Int32) (o3_sp : Nat → Int32) (o3_zs : Nat → Int32) (o3_zd : Nat → Int32) (o3_zn : Nat → Int32) (o3_zt : Nat → Int32) (o3_zl : Nat → Int32) (o3_zc : Nat → Int32) (o3_nm : Int32) (o3_sto : Nat → Int32) (o3_sg : Nat → Int32) (o3_dy : Int32) (o3_fl : Int32) (o3_hu : Int32) (o3_cn : Int32) (o3_gn : Int32) (o3_cs : Int32) (p1 : Int32) (p2 : Int32) (p3 : Int32) : Option (Int32 × (Nat → Int32) × (Nat → Int32) × (Nat → Int32) × (Nat → Int32) × (Nat → Int32) × (Nat → Int32) × Int32 × (Nat → Int32) × (Nat → Int32) × (Nat → Int32) × Int32 × (Nat → Int32) × (Nat → Int32) × (Nat → Int32) × Int32 × (Nat → Int32) × (Nat → Int32) × (Nat → Int32) × (Nat → Int32) × (Nat → Int32) × (Nat → Int32) × (Nat → Int32) × (Nat → Int32) × (Nat → Int32) × Int32 × (Nat → Int32) × (Nat → Int32) × Int32 × Int32 × Int32 × Int32 × Int32 × Int32) :=
  bd1 (fX1_mayBeBooked dy p1 p2 p3) fun r1 =>
  if r1 = 0 then
    some ((-1 : Int32), zs, zd, zn, zt, zl, zc, nm, o3_lk, o3_la, o3_ll, o3_lots, o3_pk, o3_pa, o3_pd, o3_onp, o3_br, o3_us, o3_sp, o3_zs, o3_zd, o3_zn, o3_zt, o3_zl, o3_zc, o3_nm, o3_sto, o3_sg, o3_dy, o3_fl, o3_hu, o3_cn, o3_gn, o3_cs)
  else
    bd26 (fX1_copyFrom lk la ll lots pk pa pd onp br us sp zs zd zn zt zl zc nm sto sg dy fl hu cn gn cs) fun o3_lk4 o3_la5 o3_ll6 o3_lots7 o3_pk8 o3_pa9 o3_pd10 o3_onp11 o3_br12 o3_us13 o3_sp14 o3_zs15 o3_zd16 o3_zn17 o3_zt18 o3_zl19 o3_zc20 o3_nm21 o3_sto22 o3_sg23 o3_dy24 o3_fl25 o3_hu26 o3_cn27 o3_gn28 o3_cs29 =>
    bd19 (fX1_wouldSuffice o3_lk4 o3_la5 o3_ll6 o3_lots7 o3_us13 o3_sp14 o3_zs15 o3_zd16 o3_zn17 o3_zt18 o3_zl19 o3_zc20 o3_nm21 o3_sto22 o3_sg23 o3_dy24 o3_hu26 o3_cn27 o3_gn28 o3_cs29 p1 p2 p3) fun r31 o3_lk32 o3_la33 o3_ll34 o3_lots35 o3_us36 o3_sp37 o3_zs38 o3_zd39 o3_zn40 o3_zt41 o3_zl42 o3_zc43 o3_nm44 o3_dy45 o3_hu46 o3_cn47 o3_gn48 o3_cs49 =>
    if r31 = 0 then
      some ((-2 : Int32), zs, zd, zn, zt, zl, zc, nm, o3_lk32, o3_la33, o3_ll34, o3_lots35, o3_pk8, o3_pa9, o3_pd10, o3_onp11, o3_br12, o3_us36, o3_sp37, o3_zs38, o3_zd39, o3_zn40, o3_zt41, o3_zl42, o3_zc43, o3_nm44, o3_sto22, o3_sg23, o3_dy45, o3_fl25, o3_hu46, o3_cn47, o3_gn48, o3_cs49)
    else
      if nm < (16 : Int32) then
        bd7 (fX2_add zs zd zn zt zl zc nm p1 p2 p3) fun zs53 zd54 zn55 zt56 zl57 zc58 nm59 =>
        some ((nm59 - (1 : Int32)), zs53, zd54, zn55, zt56, zl57, zc58, nm59, o3_lk32, o3_la33, o3_ll34, o3_lots35, o3_pk8, o3_pa9, o3_pd10, o3_onp11, o3_br12, o3_us36, o3_sp37, o3_zs38, o3_zd39, o3_zn40, o3_zt41, o3_zl42, o3_zc43, o3_nm44, o3_sto22, o3_sg23, o3_dy45, o3_fl25, o3_hu46, o3_cn47, o3_gn48, o3_cs49)
      else
        some ((-3 : Int32), zs, zd, zn, zt, zl, zc, nm, o3_lk32, o3_la33, o3_ll34, o3_lots35, o3_pk8, o3_pa9, o3_pd10, o3_onp11, o3_br12, o3_us36, o3_sp37, o3_zs38, o3_zd39, o3_zn40, o3_zt41, o3_zl42, o3_zc43, o3_nm44, o3_sto22, o3_sg23, o3_dy45, o3_fl25, o3_hu46, o3_cn47, o3_gn48, o3_cs49)

def fX1_tellCalm (sto : Nat → Int32) (dy : Int32) (p1 : Int32) : Option (Int32 × (Nat → Int32)) :=
  if p1 < dy then
    some ((-1 : Int32), sto)
  else
    if p1 ≤ (395 : Int32) then
      gd (inB p1 396) <|
      jl (sto (p1).toNatClampNeg) fun v4 =>
      jl (upd sto (p1).toNatClampNeg (vp_nar .boolean (0 : Int32))) fun sto5 =>
      if v4 = 0 then
        some ((0 : Int32), sto5)
      else
        some ((1 : Int32), sto5)
    else
      some ((-1 : Int32), sto)

def sX1_tellStorm_rec11 (v5 : Int32) (v8 : Int32) (rec11 : Int32 → (Nat → Int32) → Option (Int32 × (Nat → Int32))) (v12 : Int32) (sto13 : Nat → Int32) : Option (Int32 × (Nat → Int32)) :=
  if v5 ≤ v12 then
    some (v8, sto13)
  else
    if (396 : Int32) ≤ v12 then
      some (v8, sto13)
    else
      gd (inB v12 396) <|
      jl (upd sto13 (v12).toNatClampNeg (vp_nar .boolean (1 : Int32))) fun sto17 =>
      jl (v12 + (1 : Int32)) fun v18 =>
      rec11 v18 sto17
def sX1_tellStorm_rec6 (sto : Nat → Int32) (p1 : Int32) (v5 : Int32) (rec6 : Int32 → Int32 → Option (Int32 × (Nat → Int32))) (v7 : Int32) (v8 : Int32) : Option (Int32 × (Nat → Int32)) :=
  if (396 : Int32) ≤ v7 then
    if v8 ≤ (40 : Int32) then
      gl2 (sX1_tellStorm_rec11 v5 v8) gFU p1 sto
    else
      some ((-3 : Int32), sto)
  else
    gd (inB v7 396) <|
    if (sto (v7).toNatClampNeg) = 0 then
      if v7 < p1 then
        jl (v7 + (1 : Int32)) fun v24 =>
        rec6 v24 v8
      else
        if v5 ≤ v7 then
          jl (v7 + (1 : Int32)) fun v26 =>
          rec6 v26 v8
        else
          jl (v8 + (1 : Int32)) fun v27 =>
          jl (v7 + (1 : Int32)) fun v28 =>
          rec6 v28 v27
    else
      jl (v8 + (1 : Int32)) fun v21 =>
      jl (v7 + (1 : Int32)) fun v22 =>
      rec6 v22 v21
def fX1_tellStorm (sto : Nat → Int32) (dy : Int32) (p1 : Int32) (p2 : Int32) : Option (Int32 × (Nat → Int32)) :=
  if p1 < dy then
    some ((-1 : Int32), sto)
  else
    if (365 : Int32) < p1 then
      some ((-1 : Int32), sto)
    else
      if p2 < (1 : Int32) then
        some ((-1 : Int32), sto)
      else
        if p2 ≤ (30 : Int32) then
          jl (p1 + p2) fun v5 =>
          gl2 (sX1_tellStorm_rec6 sto p1 v5) gFU dy (0 : Int32)
        else
          some ((-1 : Int32), sto)

/-! the reference as plain functions -/
def sX7_returns_rec1 (bg : Nat → Int32) (rec1 : Int32 → (Nat → Int32) → Option ((Nat → Int32))) (v2 : Int32) (ss3 : Nat → Int32) : Option ((Nat → Int32)) :=
  if (599 : Int32) ≤ v2 then
    some ss3
  else
    gd (inB v2 599) <|
    jl (upd ss3 (v2).toNatClampNeg (bg (v2).toNatClampNeg)) fun ss6 =>
    jl (v2 + (1 : Int32)) fun v7 =>
    rec1 v7 ss6
def fX7_returns (ss : Nat → Int32) (bg : Nat → Int32)  : Option ((Nat → Int32)) :=
  gl2 (sX7_returns_rec1 bg) gFU (0 : Int32) ss

def sX7_acted_rec15 (ss : Nat → Int32) (bg : Nat → Int32) (p1 : Int32) (st14 : Int32) (rec15 : Int32 → (Nat → Int32) → Option (Int32 × (Nat → Int32) × (Nat → Int32) × Int32)) (v16 : Int32) (pt17 : Nat → Int32) : Option (Int32 × (Nat → Int32) × (Nat → Int32) × Int32) :=
  if (599 : Int32) ≤ v16 then
    jl (st14 + (1 : Int32)) fun v19 =>
    some (p1, ss, pt17, v19)
  else
    gd (inB v16 599) <|
    gd (inB (((599 : Int32) * st14) + v16) 2396) <|
    jl (upd pt17 ((((599 : Int32) * st14) + v16)).toNatClampNeg (bg (v16).toNatClampNeg)) fun pt22 =>
    jl (v16 + (1 : Int32)) fun v23 =>
    rec15 v23 pt22
def sX7_acted_rec4 (st : Int32) (J3 : (Nat → Int32) → Int32 → Option (Int32 × (Nat → Int32) × (Nat → Int32) × Int32)) (rec4 : Int32 → (Nat → Int32) → Option (Int32 × (Nat → Int32) × (Nat → Int32) × Int32)) (v5 : Int32) (pt6 : Nat → Int32) : Option (Int32 × (Nat → Int32) × (Nat → Int32) × Int32) :=
  if (1797 : Int32) ≤ v5 then
    jl (st - (1 : Int32)) fun v8 =>
    J3 pt6 v8
  else
    gd (inB (v5 + (599 : Int32)) 2396) <|
    gd (inB v5 2396) <|
    jl (upd pt6 (v5).toNatClampNeg (pt6 ((v5 + (599 : Int32))).toNatClampNeg)) fun pt11 =>
    jl (v5 + (1 : Int32)) fun v12 =>
    rec4 v12 pt11
def fX7_acted (ss : Nat → Int32) (bg : Nat → Int32) (pt : Nat → Int32) (st : Int32) (p1 : Int32) : Option (Int32 × (Nat → Int32) × (Nat → Int32) × Int32) :=
  if 0 ≤ p1 then
    mrg (fun (pt13 : Nat → Int32) (st14 : Int32) =>
      gl2 (sX7_acted_rec15 ss bg p1 st14) gFU (0 : Int32) pt13
    ) fun J3 =>
      if st = (4 : Int32) then
        gl2 (sX7_acted_rec4 st J3) gFU (0 : Int32) pt
      else
        J3 pt st
  else
    bd1 (fX7_returns ss bg) fun ss24 =>
    some (p1, ss24, pt, st)

def fX7_setParty (ss : Nat → Int32) (p1 : Int32) (p2 : Int32) (p3 : Int32) : Option ((Nat → Int32)) :=
  gd (inB (((101 : Int32) + ((6 : Int32) * p1)) + p2) 599) <|
  jl (upd ss ((((101 : Int32) + ((6 : Int32) * p1)) + p2)).toNatClampNeg p3) fun ss2 =>
  some ss2

def fX7_adds (ss : Nat → Int32) (p1 : Int32) (p2 : Int32) (p3 : Int32) : Option ((Nat → Int32)) :=
  gd (inB (4 : Int32) 599) <|
  jl (ss ((4 : Int32)).toNatClampNeg) fun v2 =>
  jl (upd ss ((4 : Int32)).toNatClampNeg ((ss ((4 : Int32)).toNatClampNeg) + (1 : Int32))) fun ss3 =>
  bd1 (fX7_setParty ss3 v2 (0 : Int32) p1) fun ss4 =>
  bd1 (fX7_setParty ss4 v2 (1 : Int32) p2) fun ss6 =>
  bd1 (fX7_setParty ss6 v2 (2 : Int32) p3) fun ss8 =>
  bd1 (fX7_setParty ss8 v2 (3 : Int32) (0 : Int32)) fun ss10 =>
  bd1 (fX7_setParty ss10 v2 (4 : Int32) (0 : Int32)) fun ss12 =>
  bd1 (fX7_setParty ss12 v2 (5 : Int32) (0 : Int32)) fun ss14 =>
  some ss14

def fX7_ofParty (ss : Nat → Int32) (p1 : Int32) (p2 : Int32) : Option (Int32) :=
  gd (inB (((101 : Int32) + ((6 : Int32) * p1)) + p2) 599) <|
  some (ss ((((101 : Int32) + ((6 : Int32) * p1)) + p2)).toNatClampNeg)

def fX7_isStorm (ss : Nat → Int32) (p1 : Int32) : Option (Int32) :=
  if (396 : Int32) ≤ p1 then
    some (0 : Int32)
  else
    gd (inB ((203 : Int32) + p1) 599) <|
    if (ss (((203 : Int32) + p1)).toNatClampNeg) = (1 : Int32) then
      some (1 : Int32)
    else
      some (0 : Int32)

def sX7_guests_rec1 (ss : Nat → Int32) (rec1 : Int32 → Int32 → Option (Int32)) (v2 : Int32) (v3 : Int32) : Option (Int32) :=
  gd (inB (4 : Int32) 599) <|
  if (ss ((4 : Int32)).toNatClampNeg) ≤ v2 then
    some v3
  else
    bd1 (fX7_ofParty ss v2 (3 : Int32)) fun r6 =>
    if r6 = (1 : Int32) then
      bd1 (fX7_ofParty ss v2 (0 : Int32)) fun r11 =>
      jl (v3 + r11) fun v13 =>
      jl (v2 + (1 : Int32)) fun v14 =>
      rec1 v14 v13
    else
      jl (v3 + (0 : Int32)) fun v9 =>
      jl (v2 + (1 : Int32)) fun v10 =>
      rec1 v10 v9
def fX7_guests (ss : Nat → Int32)  : Option (Int32) :=
  gl2 (sX7_guests_rec1 ss) gFU (0 : Int32) (0 : Int32)

def fX7_arrives (ss : Nat → Int32) (p1 : Int32) : Option ((Nat → Int32)) :=
  bd1 (fX7_ofParty ss p1 (1 : Int32)) fun r1 =>
  bd1 (fX7_ofParty ss p1 (2 : Int32)) fun r3 =>
  gd (inB (0 : Int32) 599) <|
  if (ss ((0 : Int32)).toNatClampNeg) < (r1 + r3) then
    bd1 (fX7_isStorm ss (ss ((0 : Int32)).toNatClampNeg)) fun r7 =>
    if r7 = 0 then
      bd1 (fX7_guests ss) fun r10 =>
      bd1 (fX7_ofParty ss p1 (0 : Int32)) fun r12 =>
      gd (inB (10 : Int32) 599) <|
      mrg (fun (v17 : Int32) =>
        mrg (fun (v20 : Int32) =>
          bd1 (fX7_setParty ss p1 (3 : Int32) v20) fun ss21 =>
          mrg (fun (v25 : Int32) =>
            bd1 (fX7_setParty ss21 p1 (5 : Int32) v25) fun ss26 =>
            gd (inB (9 : Int32) 599) <|
            if v17 = 0 then
              jl (upd ss26 ((9 : Int32)).toNatClampNeg ((ss26 ((9 : Int32)).toNatClampNeg) + (1 : Int32))) fun ss30 =>
              some ss30
            else
              jl (upd ss26 ((9 : Int32)).toNatClampNeg ((ss26 ((9 : Int32)).toNatClampNeg) + (0 : Int32))) fun ss31 =>
              some ss31
          ) fun J24 =>
            if v17 = 0 then
              J24 (0 : Int32)
            else
              J24 ((ss21 ((0 : Int32)).toNatClampNeg) + (1 : Int32))
        ) fun J19 =>
          if v17 = 0 then
            J19 (3 : Int32)
          else
            J19 (1 : Int32)
      ) fun J16 =>
        if (ss ((10 : Int32)).toNatClampNeg) < (r10 + r12) then
          J16 (0 : Int32)
        else
          J16 (1 : Int32)
    else
      some ss
  else
    bd1 (fX7_setParty ss p1 (3 : Int32) (3 : Int32)) fun ss32 =>
    some ss32

def sX7_begins_rec1 (ss : Nat → Int32) (rec1 : Int32 → (Nat → Int32) → Option ((Nat → Int32))) (v2 : Int32) (bg3 : Nat → Int32) : Option ((Nat → Int32)) :=
  if (599 : Int32) ≤ v2 then
    some bg3
  else
    gd (inB v2 599) <|
    jl (upd bg3 (v2).toNatClampNeg (ss (v2).toNatClampNeg)) fun bg6 =>
    jl (v2 + (1 : Int32)) fun v7 =>
    rec1 v7 bg6
def fX7_begins (ss : Nat → Int32) (bg : Nat → Int32)  : Option ((Nat → Int32)) :=
  gl2 (sX7_begins_rec1 ss) gFU (0 : Int32) bg

def fX7_in  (p1 : Int32) (p2 : Int32) (p3 : Int32) : Option (Int32) :=
  if p1 < p2 then
    some (0 : Int32)
  else
    if p3 < p1 then
      some (0 : Int32)
    else
      some (1 : Int32)

def fX7_isStay (ss : Nat → Int32) (p1 : Int32) (p2 : Int32) : Option (Int32) :=
  gd (inB (0 : Int32) 599) <|
  bd1 (fX7_in p1 (ss ((0 : Int32)).toNatClampNeg) (365 : Int32)) fun r2 =>
  if r2 = 0 then
    some (0 : Int32)
  else
    bd1 (fX7_in p2 (1 : Int32) (9 : Int32)) fun r5 =>
    if r5 = 0 then
      some (0 : Int32)
    else
      some (1 : Int32)

def sX7_partiesOf_rec1 (ss : Nat → Int32) (p1 : Int32) (rec1 : Int32 → Int32 → Option (Int32)) (v2 : Int32) (v3 : Int32) : Option (Int32) :=
  gd (inB (4 : Int32) 599) <|
  if (ss ((4 : Int32)).toNatClampNeg) ≤ v2 then
    some v3
  else
    bd1 (fX7_ofParty ss v2 (3 : Int32)) fun r6 =>
    if r6 = p1 then
      jl (v3 + (1 : Int32)) fun v11 =>
      jl (v2 + (1 : Int32)) fun v12 =>
      rec1 v12 v11
    else
      jl (v3 + (0 : Int32)) fun v9 =>
      jl (v2 + (1 : Int32)) fun v10 =>
      rec1 v10 v9
def fX7_partiesOf (ss : Nat → Int32) (p1 : Int32) : Option (Int32) :=
  gl2 (sX7_partiesOf_rec1 ss p1) gFU (0 : Int32) (0 : Int32)

def fX7_isAny (ss : Nat → Int32)  : Option (Int32) :=
  bd1 (fX7_partiesOf ss (0 : Int32)) fun r1 =>
  bd1 (fX7_partiesOf ss (1 : Int32)) fun r3 =>
  if (r1 + r3) ≤ 0 then
    some (0 : Int32)
  else
    some (1 : Int32)

def sX7_leave_rec1  (rec1 : Int32 → (Nat → Int32) → Option ((Nat → Int32))) (v2 : Int32) (ss3 : Nat → Int32) : Option ((Nat → Int32)) :=
  gd (inB (4 : Int32) 599) <|
  if (ss3 ((4 : Int32)).toNatClampNeg) ≤ v2 then
    some ss3
  else
    bd1 (fX7_ofParty ss3 v2 (3 : Int32)) fun r6 =>
    if r6 = (1 : Int32) then
      bd1 (fX7_ofParty ss3 v2 (4 : Int32)) fun r10 =>
      bd1 (fX7_ofParty ss3 v2 (2 : Int32)) fun r12 =>
      if r10 < r12 then
        jl (v2 + (1 : Int32)) fun v15 =>
        rec1 v15 ss3
      else
        bd1 (fX7_setParty ss3 v2 (3 : Int32) (2 : Int32)) fun ss16 =>
        jl (v2 + (1 : Int32)) fun v18 =>
        rec1 v18 ss16
    else
      jl (v2 + (1 : Int32)) fun v9 =>
      rec1 v9 ss3
def fX7_leave (ss : Nat → Int32)  : Option ((Nat → Int32)) :=
  gl2 (sX7_leave_rec1) gFU (0 : Int32) ss

def fX7_ofLot (ss : Nat → Int32) (p1 : Int32) (p2 : Int32) : Option (Int32) :=
  gd (inB (((41 : Int32) + ((3 : Int32) * p1)) + p2) 599) <|
  some (ss ((((41 : Int32) + ((3 : Int32) * p1)) + p2)).toNatClampNeg)

def sX7_stock_rec1 (ss : Nat → Int32) (p1 : Int32) (rec1 : Int32 → Int32 → Option (Int32)) (v2 : Int32) (v3 : Int32) : Option (Int32) :=
  gd (inB (2 : Int32) 599) <|
  if (ss ((2 : Int32)).toNatClampNeg) ≤ v2 then
    some v3
  else
    bd1 (fX7_ofLot ss v2 (0 : Int32)) fun r6 =>
    if r6 = p1 then
      bd1 (fX7_ofLot ss v2 (1 : Int32)) fun r11 =>
      jl (v3 + r11) fun v13 =>
      jl (v2 + (1 : Int32)) fun v14 =>
      rec1 v14 v13
    else
      jl (v3 + (0 : Int32)) fun v9 =>
      jl (v2 + (1 : Int32)) fun v10 =>
      rec1 v10 v9
def fX7_stock (ss : Nat → Int32) (p1 : Int32) : Option (Int32) :=
  gl2 (sX7_stock_rec1 ss p1) gFU (0 : Int32) (0 : Int32)

def sX7_firstOf_rec1 (ss : Nat → Int32) (p1 : Int32) (rec1 : Int32 → Option (Int32)) (v2 : Int32) : Option (Int32) :=
  gd (inB (2 : Int32) 599) <|
  if (ss ((2 : Int32)).toNatClampNeg) ≤ v2 then
    some v2
  else
    bd1 (fX7_ofLot ss v2 (0 : Int32)) fun r5 =>
    if r5 = p1 then
      some v2
    else
      jl (v2 + (1 : Int32)) fun v8 =>
      rec1 v8
def fX7_firstOf (ss : Nat → Int32) (p1 : Int32) : Option (Int32) :=
  gl1 (sX7_firstOf_rec1 ss p1) gFU (0 : Int32)

def sX7_removes_rec8  (rec8 : Int32 → (Nat → Int32) → Option ((Nat → Int32))) (v9 : Int32) (ss10 : Nat → Int32) : Option ((Nat → Int32)) :=
  if (3 : Int32) ≤ v9 then
    some ss10
  else
    gd (inB (((41 : Int32) + ((3 : Int32) * (ss10 ((2 : Int32)).toNatClampNeg))) + v9) 599) <|
    jl (upd ss10 ((((41 : Int32) + ((3 : Int32) * (ss10 ((2 : Int32)).toNatClampNeg))) + v9)).toNatClampNeg (0 : Int32)) fun ss13 =>
    jl (v9 + (1 : Int32)) fun v14 =>
    rec8 v14 ss13
def sX7_removes_rec4  (rec4 : Int32 → (Nat → Int32) → Option ((Nat → Int32))) (v5 : Int32) (ss6 : Nat → Int32) : Option ((Nat → Int32)) :=
  if ((41 : Int32) + ((3 : Int32) * (ss6 ((2 : Int32)).toNatClampNeg))) ≤ v5 then
    gl2 (sX7_removes_rec8) gFU (0 : Int32) ss6
  else
    gd (inB (v5 + (3 : Int32)) 599) <|
    gd (inB v5 599) <|
    jl (upd ss6 (v5).toNatClampNeg (ss6 ((v5 + (3 : Int32))).toNatClampNeg)) fun ss17 =>
    jl (v5 + (1 : Int32)) fun v18 =>
    rec4 v18 ss17
def fX7_removes (ss : Nat → Int32) (p1 : Int32) : Option ((Nat → Int32)) :=
  gd (inB (2 : Int32) 599) <|
  jl (upd ss ((2 : Int32)).toNatClampNeg ((ss ((2 : Int32)).toNatClampNeg) - (1 : Int32))) fun ss2 =>
  jl ((41 : Int32) + ((3 : Int32) * p1)) fun v3 =>
  gl2 (sX7_removes_rec4) gFU v3 ss2

def sX7_uses_rec3 (p1 : Int32) (p2 : Int32) (rec3 : Int32 → Int32 → (Nat → Int32) → Option (Int32 × (Nat → Int32))) (v4 : Int32) (v5 : Int32) (ss6 : Nat → Int32) : Option (Int32 × (Nat → Int32)) :=
  mrg (fun (_ : Unit) =>
    gd (inB ((17 : Int32) + p1) 599) <|
    jl (upd ss6 (((17 : Int32) + p1)).toNatClampNeg ((ss6 (((17 : Int32) + p1)).toNatClampNeg) + (p2 - v5))) fun ss31 =>
    some (v5, ss31)
  ) fun J8 =>
    if v5 ≤ 0 then
      J8 ()
    else
      gd (inB (2 : Int32) 599) <|
      if (ss6 ((2 : Int32)).toNatClampNeg) ≤ v4 then
        J8 ()
      else
        bd1 (fX7_ofLot ss6 v4 (1 : Int32)) fun r11 =>
        mrg (fun (v17 : Int32) =>
          gd (inB (((41 : Int32) + ((3 : Int32) * v4)) + (1 : Int32)) 599) <|
          jl (upd ss6 ((((41 : Int32) + ((3 : Int32) * v4)) + (1 : Int32))).toNatClampNeg ((ss6 ((((41 : Int32) + ((3 : Int32) * v4)) + (1 : Int32))).toNatClampNeg) - v17)) fun ss19 =>
          jl (v5 - v17) fun v20 =>
          bd1 (fX7_ofLot ss19 v4 (1 : Int32)) fun r21 =>
          mrg (fun (ss27 : Nat → Int32) =>
            bd1 (fX7_firstOf ss27 p1) fun r28 =>
            rec3 r28 v20 ss27
          ) fun J24 =>
            if r21 = 0 then
              bd1 (fX7_removes ss19 v4) fun ss25 =>
              J24 ss25
            else
              J24 ss19
        ) fun J14 =>
          if v5 ≤ r11 then
            J14 v5
          else
            bd1 (fX7_ofLot ss6 v4 (1 : Int32)) fun r15 =>
            J14 r15
def fX7_uses (ss : Nat → Int32) (p1 : Int32) (p2 : Int32) : Option (Int32 × (Nat → Int32)) :=
  bd1 (fX7_firstOf ss p1) fun r1 =>
  gl3 (sX7_uses_rec3 p1 p2) gFU r1 p2 ss

def fX7_sups (ss : Nat → Int32) (p1 : Int32) : Option ((Nat → Int32)) :=
  gd (inB (11 : Int32) 599) <|
  jl (ss ((11 : Int32)).toNatClampNeg) fun v2 =>
  bd1 (fX7_stock ss (0 : Int32)) fun r3 =>
  gd (inB (12 : Int32) 599) <|
  mrg (fun (v8 : Int32) =>
    mrg (fun (v11 : Int32) =>
      bd2 (fX7_uses ss (1 : Int32) p1) fun r12 ss13 =>
      bd2 (fX7_uses ss13 (0 : Int32) ((v11 * p1) + r12)) fun r15 ss16 =>
      gd (inB (5 : Int32) 599) <|
      mrg (fun (v21 : Int32) =>
        jl (upd ss16 ((5 : Int32)).toNatClampNeg ((ss16 ((5 : Int32)).toNatClampNeg) + v21)) fun ss22 =>
        gd (inB (8 : Int32) 599) <|
        if p1 ≤ 0 then
          jl (upd ss22 ((8 : Int32)).toNatClampNeg ((ss22 ((8 : Int32)).toNatClampNeg) + (0 : Int32))) fun ss25 =>
          some ss25
        else
          if v2 ≤ v11 then
            jl (upd ss22 ((8 : Int32)).toNatClampNeg ((ss22 ((8 : Int32)).toNatClampNeg) + (0 : Int32))) fun ss27 =>
            some ss27
          else
            jl (upd ss22 ((8 : Int32)).toNatClampNeg ((ss22 ((8 : Int32)).toNatClampNeg) + (1 : Int32))) fun ss28 =>
            some ss28
      ) fun J20 =>
        if p1 ≤ r15 then
          J20 p1
        else
          J20 r15
    ) fun J10 =>
      if v8 = 0 then
        J10 v2
      else
        J10 (1 : Int32)
  ) fun J7 =>
    if (((ss ((12 : Int32)).toNatClampNeg) * p1) * v2) ≤ r3 then
      J7 (0 : Int32)
    else
      J7 (1 : Int32)

def fX7_heats (ss : Nat → Int32) (p1 : Int32) : Option ((Nat → Int32)) :=
  mrg (fun (v7 : Int32) =>
    gd (inB (6 : Int32) 599) <|
    bd2 (fX7_uses ss (2 : Int32) v7) fun r9 ss10 =>
    if r9 ≤ 0 then
      jl (upd ss10 ((6 : Int32)).toNatClampNeg ((ss ((6 : Int32)).toNatClampNeg) + (0 : Int32))) fun ss13 =>
      some ss13
    else
      jl (upd ss10 ((6 : Int32)).toNatClampNeg ((ss ((6 : Int32)).toNatClampNeg) + (1 : Int32))) fun ss14 =>
      some ss14
  ) fun J2 =>
    if p1 = 0 then
      J2 (0 : Int32)
    else
      gd (inB (0 : Int32) 599) <|
      bd1 (fX7_isStorm ss (ss ((0 : Int32)).toNatClampNeg)) fun r4 =>
      if r4 = 0 then
        J2 (((p1 + (3 : Int32)) / (4 : Int32)) + (0 : Int32))
      else
        J2 (((p1 + (3 : Int32)) / (4 : Int32)) + (1 : Int32))

def sX7_spoils_rec3  (rec3 : Int32 → (Nat → Int32) → Option ((Nat → Int32))) (v4 : Int32) (ss5 : Nat → Int32) : Option ((Nat → Int32)) :=
  if v4 < 0 then
    some ss5
  else
    bd1 (fX7_ofLot ss5 v4 (2 : Int32)) fun r7 =>
    gd (inB (0 : Int32) 599) <|
    if r7 = (ss5 ((0 : Int32)).toNatClampNeg) then
      bd1 (fX7_ofLot ss5 v4 (0 : Int32)) fun r12 =>
      gd (inB ((20 : Int32) + r12) 599) <|
      bd1 (fX7_ofLot ss5 v4 (1 : Int32)) fun r15 =>
      jl (upd ss5 (((20 : Int32) + r12)).toNatClampNeg ((ss5 (((20 : Int32) + r12)).toNatClampNeg) + r15)) fun ss17 =>
      bd1 (fX7_removes ss17 v4) fun ss18 =>
      jl (v4 + (-1 : Int32)) fun v20 =>
      rec3 v20 ss18
    else
      jl (v4 + (-1 : Int32)) fun v11 =>
      rec3 v11 ss5
def fX7_spoils (ss : Nat → Int32)  : Option ((Nat → Int32)) :=
  gd (inB (2 : Int32) 599) <|
  jl ((ss ((2 : Int32)).toNatClampNeg) - (1 : Int32)) fun v2 =>
  gl2 (sX7_spoils_rec3) gFU v2 ss

def sX7_night_rec22  (rec22 : Int32 → (Nat → Int32) → Option ((Nat → Int32))) (v23 : Int32) (ss24 : Nat → Int32) : Option ((Nat → Int32)) :=
  if (ss24 ((4 : Int32)).toNatClampNeg) ≤ v23 then
    bd1 (fX7_spoils ss24) fun ss26 =>
    jl (upd ss26 ((0 : Int32)).toNatClampNeg ((ss26 ((0 : Int32)).toNatClampNeg) + (1 : Int32))) fun ss28 =>
    some ss28
  else
    bd1 (fX7_ofParty ss24 v23 (4 : Int32)) fun r29 =>
    bd1 (fX7_ofParty ss24 v23 (3 : Int32)) fun r31 =>
    mrg (fun (v35 : Int32) =>
      bd1 (fX7_setParty ss24 v23 (4 : Int32) (r29 + v35)) fun ss36 =>
      jl (v23 + (1 : Int32)) fun v38 =>
      rec22 v38 ss36
    ) fun J34 =>
      if r31 = (1 : Int32) then
        J34 (1 : Int32)
      else
        J34 (0 : Int32)
def sX7_night_rec9  (rec9 : Int32 → (Nat → Int32) → Option ((Nat → Int32))) (v10 : Int32) (ss11 : Nat → Int32) : Option ((Nat → Int32)) :=
  gd (inB (4 : Int32) 599) <|
  if (ss11 ((4 : Int32)).toNatClampNeg) ≤ v10 then
    bd1 (fX7_guests ss11) fun r14 =>
    bd1 (fX7_sups ss11 r14) fun ss16 =>
    bd1 (fX7_heats ss16 r14) fun ss18 =>
    gd (inB (7 : Int32) 599) <|
    jl (upd ss18 ((7 : Int32)).toNatClampNeg ((ss18 ((7 : Int32)).toNatClampNeg) + r14)) fun ss21 =>
    gl2 (sX7_night_rec22) gFU (0 : Int32) ss21
  else
    bd1 (fX7_ofParty ss11 v10 (3 : Int32)) fun r39 =>
    if r39 = 0 then
      bd1 (fX7_ofParty ss11 v10 (1 : Int32)) fun r43 =>
      if (ss11 ((0 : Int32)).toNatClampNeg) < r43 then
        jl (v10 + (1 : Int32)) fun v46 =>
        rec9 v46 ss11
      else
        bd1 (fX7_arrives ss11 v10) fun ss47 =>
        jl (v10 + (1 : Int32)) fun v49 =>
        rec9 v49 ss47
    else
      jl (v10 + (1 : Int32)) fun v42 =>
      rec9 v42 ss11
def fX7_night (ss : Nat → Int32)  : Option ((Nat → Int32)) :=
  gd (inB (0 : Int32) 599) <|
  bd1 (fX7_isStorm ss (ss ((0 : Int32)).toNatClampNeg)) fun r2 =>
  mrg (fun (ss8 : Nat → Int32) =>
    gl2 (sX7_night_rec9) gFU (0 : Int32) ss8
  ) fun J5 =>
    if r2 = 0 then
      bd1 (fX7_leave ss) fun ss6 =>
      J5 ss6
    else
      J5 ss

def sX7_isTaken_rec23 (asd3 : Nat → Int32) (v8 : Int32) (rec23 : Int32 → (Nat → Int32) → Option (Int32 × (Nat → Int32) × (Nat → Int32))) (v24 : Int32) (ss25 : Nat → Int32) : Option (Int32 × (Nat → Int32) × (Nat → Int32)) :=
  if (599 : Int32) ≤ v24 then
    gd (nzB v8) <|
    some (v8, ss25, asd3)
  else
    gd (inB v24 599) <|
    jl (upd ss25 (v24).toNatClampNeg (asd3 (v24).toNatClampNeg)) fun ss29 =>
    jl (v24 + (1 : Int32)) fun v30 =>
    rec23 v30 ss29
def sX7_isTaken_rec7 (asd3 : Nat → Int32) (rec7 : Int32 → (Nat → Int32) → Option (Int32 × (Nat → Int32) × (Nat → Int32))) (v8 : Int32) (ss9 : Nat → Int32) : Option (Int32 × (Nat → Int32) × (Nat → Int32)) :=
  mrg (fun (_ : Unit) =>
    gl2 (sX7_isTaken_rec23 asd3 v8) gFU (0 : Int32) ss9
  ) fun J11 =>
    if v8 = 0 then
      J11 ()
    else
      bd1 (fX7_isAny ss9) fun r12 =>
      if r12 = 0 then
        J11 ()
      else
        bd1 (fX7_night ss9) fun ss15 =>
        gd (inB (5 : Int32) 599) <|
        if (ss15 ((5 : Int32)).toNatClampNeg) = (asd3 ((5 : Int32)).toNatClampNeg) then
          gd (inB (6 : Int32) 599) <|
          if (ss15 ((6 : Int32)).toNatClampNeg) = (asd3 ((6 : Int32)).toNatClampNeg) then
            gd (inB (9 : Int32) 599) <|
            if (ss15 ((9 : Int32)).toNatClampNeg) = (asd3 ((9 : Int32)).toNatClampNeg) then
              rec7 (1 : Int32) ss15
            else
              rec7 (0 : Int32) ss15
          else
            rec7 (0 : Int32) ss15
        else
          rec7 (0 : Int32) ss15
def sX7_isTaken_rec1 (ss : Nat → Int32) (p1 : Int32) (p2 : Int32) (p3 : Int32) (rec1 : Int32 → (Nat → Int32) → Option (Int32 × (Nat → Int32) × (Nat → Int32))) (v2 : Int32) (asd3 : Nat → Int32) : Option (Int32 × (Nat → Int32) × (Nat → Int32)) :=
  if (599 : Int32) ≤ v2 then
    bd1 (fX7_adds ss p1 p2 p3) fun ss5 =>
    gl2 (sX7_isTaken_rec7 asd3) gFU (1 : Int32) ss5
  else
    gd (inB v2 599) <|
    jl (upd asd3 (v2).toNatClampNeg (ss (v2).toNatClampNeg)) fun asd32 =>
    jl (v2 + (1 : Int32)) fun v33 =>
    rec1 v33 asd32
def fX7_isTaken (ss : Nat → Int32) (asd : Nat → Int32) (p1 : Int32) (p2 : Int32) (p3 : Int32) : Option (Int32 × (Nat → Int32) × (Nat → Int32)) :=
  gl2 (sX7_isTaken_rec1 ss p1 p2 p3) gFU (0 : Int32) asd

def fX7_books (ss : Nat → Int32) (asd : Nat → Int32) (p1 : Int32) (p2 : Int32) (p3 : Int32) : Option (Int32 × (Nat → Int32) × (Nat → Int32)) :=
  bd1 (fX7_in p1 (1 : Int32) (6 : Int32)) fun r1 =>
  if r1 = 0 then
    some ((-1 : Int32), ss, asd)
  else
    bd1 (fX7_isStay ss p2 p3) fun r4 =>
    if r4 = 0 then
      some ((-1 : Int32), ss, asd)
    else
      bd3 (fX7_isTaken ss asd p1 p2 p3) fun r7 ss8 asd9 =>
      if r7 = 0 then
        some ((-2 : Int32), ss8, asd9)
      else
        gd (inB (4 : Int32) 599) <|
        if (ss8 ((4 : Int32)).toNatClampNeg) = (16 : Int32) then
          some ((-3 : Int32), ss8, asd9)
        else
          bd1 (fX7_adds ss8 p1 p2 p3) fun ss14 =>
          some (((ss14 ((4 : Int32)).toNatClampNeg) - (1 : Int32)), ss14, asd9)

def fX7_book (ss : Nat → Int32) (bg : Nat → Int32) (pt : Nat → Int32) (st : Int32) (asd : Nat → Int32) (p1 : Int32) (p2 : Int32) (p3 : Int32) : Option (Int32 × (Nat → Int32) × (Nat → Int32) × (Nat → Int32) × Int32 × (Nat → Int32)) :=
  bd1 (fX7_begins ss bg) fun bg1 =>
  bd3 (fX7_books ss asd p1 p2 p3) fun r3 ss4 asd5 =>
  bd4 (fX7_acted ss4 bg1 pt st r3) fun r7 ss8 pt9 st10 =>
  some (r7, ss8, bg1, pt9, st10, asd5)

def fX7_loads (ss : Nat → Int32) (p1 : Int32) (p2 : Int32) (p3 : Int32) : Option (Int32 × (Nat → Int32)) :=
  bd1 (fX7_in p1 (0 : Int32) (2 : Int32)) fun r1 =>
  if r1 = 0 then
    some ((-1 : Int32), ss)
  else
    bd1 (fX7_in p2 (1 : Int32) (999 : Int32)) fun r4 =>
    if r4 = 0 then
      some ((-1 : Int32), ss)
    else
      bd1 (fX7_in p3 (0 : Int32) (365 : Int32)) fun r7 =>
      if r7 = 0 then
        some ((-1 : Int32), ss)
      else
        gd (inB (3 : Int32) 599) <|
        if (ss ((3 : Int32)).toNatClampNeg) = (6 : Int32) then
          some ((-3 : Int32), ss)
        else
          jl ((23 : Int32) + ((3 : Int32) * (ss ((3 : Int32)).toNatClampNeg))) fun v12 =>
          gd (inB v12 599) <|
          jl (upd ss (v12).toNatClampNeg p1) fun ss14 =>
          gd (inB (v12 + (1 : Int32)) 599) <|
          jl (upd ss14 ((v12 + (1 : Int32))).toNatClampNeg p2) fun ss16 =>
          gd (inB (v12 + (2 : Int32)) 599) <|
          jl (upd ss16 ((v12 + (2 : Int32))).toNatClampNeg p3) fun ss18 =>
          jl (upd ss18 ((3 : Int32)).toNatClampNeg ((ss18 ((3 : Int32)).toNatClampNeg) + (1 : Int32))) fun ss19 =>
          some ((ss19 ((3 : Int32)).toNatClampNeg), ss19)

def sX7_stormsAhead_rec3 (ss : Nat → Int32) (rec3 : Int32 → Int32 → Option (Int32)) (v4 : Int32) (v5 : Int32) : Option (Int32) :=
  if (396 : Int32) ≤ v4 then
    some v5
  else
    gd (inB ((203 : Int32) + v4) 599) <|
    jl (v5 + (ss (((203 : Int32) + v4)).toNatClampNeg)) fun v8 =>
    jl (v4 + (1 : Int32)) fun v9 =>
    rec3 v9 v8
def fX7_stormsAhead (ss : Nat → Int32)  : Option (Int32) :=
  gd (inB (0 : Int32) 599) <|
  jl (ss ((0 : Int32)).toNatClampNeg) fun v2 =>
  gl2 (sX7_stormsAhead_rec3 ss) gFU v2 (0 : Int32)

def sX7_storms_rec8 (p1 : Int32) (p2 : Int32) (rec8 : Int32 → (Nat → Int32) → Option (Int32 × (Nat → Int32))) (v9 : Int32) (ss10 : Nat → Int32) : Option (Int32 × (Nat → Int32)) :=
  if p2 ≤ v9 then
    bd1 (fX7_stormsAhead ss10) fun r12 =>
    if r12 ≤ (40 : Int32) then
      some (r12, ss10)
    else
      some ((-3 : Int32), ss10)
  else
    gd (inB (((203 : Int32) + p1) + v9) 599) <|
    jl (upd ss10 ((((203 : Int32) + p1) + v9)).toNatClampNeg (1 : Int32)) fun ss16 =>
    jl (v9 + (1 : Int32)) fun v17 =>
    rec8 v17 ss16
def fX7_storms (ss : Nat → Int32) (p1 : Int32) (p2 : Int32) : Option (Int32 × (Nat → Int32)) :=
  gd (inB (0 : Int32) 599) <|
  bd1 (fX7_in p1 (ss ((0 : Int32)).toNatClampNeg) (365 : Int32)) fun r2 =>
  if r2 = 0 then
    some ((-1 : Int32), ss)
  else
    bd1 (fX7_in p2 (1 : Int32) (30 : Int32)) fun r5 =>
    if r5 = 0 then
      some ((-1 : Int32), ss)
    else
      gl2 (sX7_storms_rec8 p1 p2) gFU (0 : Int32) ss

def fX7_isParty (ss : Nat → Int32) (p1 : Int32) : Option (Int32) :=
  gd (inB (4 : Int32) 599) <|
  bd1 (fX7_in p1 (0 : Int32) ((ss ((4 : Int32)).toNatClampNeg) - (1 : Int32))) fun r2 =>
  gd (nzB r2) <|
  some r2

def fX7_cancels (ss : Nat → Int32) (p1 : Int32) : Option (Int32 × (Nat → Int32)) :=
  bd1 (fX7_isParty ss p1) fun r1 =>
  if r1 = 0 then
    some ((-1 : Int32), ss)
  else
    bd1 (fX7_ofParty ss p1 (3 : Int32)) fun r4 =>
    if r4 = 0 then
      bd1 (fX7_setParty ss p1 (3 : Int32) (3 : Int32)) fun ss7 =>
      bd1 (fX7_partiesOf ss7 (0 : Int32)) fun r9 =>
      some (r9, ss7)
    else
      some ((-2 : Int32), ss)

def sX7_sleeps_rec8 (p1 : Int32) (v7 : Int32) (rec8 : Int32 → (Nat → Int32) → Option (Int32 × (Nat → Int32))) (v9 : Int32) (ss10 : Nat → Int32) : Option (Int32 × (Nat → Int32)) :=
  if p1 ≤ v9 then
    some (((ss10 ((5 : Int32)).toNatClampNeg) - v7), ss10)
  else
    bd1 (fX7_night ss10) fun ss12 =>
    jl (v9 + (1 : Int32)) fun v14 =>
    rec8 v14 ss12
def fX7_sleeps (ss : Nat → Int32) (p1 : Int32) : Option (Int32 × (Nat → Int32)) :=
  bd1 (fX7_in p1 (1 : Int32) (60 : Int32)) fun r1 =>
  if r1 = 0 then
    some ((-1 : Int32), ss)
  else
    gd (inB (0 : Int32) 599) <|
    if ((ss ((0 : Int32)).toNatClampNeg) + p1) ≤ (365 : Int32) then
      gd (inB (5 : Int32) 599) <|
      jl (ss ((5 : Int32)).toNatClampNeg) fun v7 =>
      gl2 (sX7_sleeps_rec8 p1 v7) gFU (0 : Int32) ss
    else
      some ((-3 : Int32), ss)

def sX7_comes_rec11 (rec3 : Int32 → (Nat → Int32) → Option ((Nat → Int32))) (v4 : Int32) (rec11 : Int32 → (Nat → Int32) → Option ((Nat → Int32))) (v12 : Int32) (ss13 : Nat → Int32) : Option ((Nat → Int32)) :=
  if (3 : Int32) ≤ v12 then
    jl (v4 + (-1 : Int32)) fun v15 =>
    rec3 v15 ss13
  else
    bd1 (fX7_ofLot ss13 (v4 - (1 : Int32)) v12) fun r16 =>
    gd (inB (((41 : Int32) + ((3 : Int32) * v4)) + v12) 599) <|
    jl (upd ss13 ((((41 : Int32) + ((3 : Int32) * v4)) + v12)).toNatClampNeg r16) fun ss19 =>
    jl (v12 + (1 : Int32)) fun v20 =>
    rec11 v20 ss19
def sX7_comes_rec3 (p1 : Int32) (p2 : Int32) (p3 : Int32) (rec3 : Int32 → (Nat → Int32) → Option ((Nat → Int32))) (v4 : Int32) (ss5 : Nat → Int32) : Option ((Nat → Int32)) :=
  mrg (fun (_ : Unit) =>
    gd (inB ((41 : Int32) + ((3 : Int32) * v4)) 599) <|
    jl (upd ss5 (((41 : Int32) + ((3 : Int32) * v4))).toNatClampNeg p1) fun ss22 =>
    gd (inB (((41 : Int32) + ((3 : Int32) * v4)) + (1 : Int32)) 599) <|
    jl (upd ss22 ((((41 : Int32) + ((3 : Int32) * v4)) + (1 : Int32))).toNatClampNeg p2) fun ss24 =>
    gd (inB (((41 : Int32) + ((3 : Int32) * v4)) + (2 : Int32)) 599) <|
    jl (upd ss24 ((((41 : Int32) + ((3 : Int32) * v4)) + (2 : Int32))).toNatClampNeg p3) fun ss26 =>
    jl (upd ss26 ((2 : Int32)).toNatClampNeg ((ss26 ((2 : Int32)).toNatClampNeg) + (1 : Int32))) fun ss27 =>
    gd (inB ((14 : Int32) + p1) 599) <|
    jl (upd ss27 (((14 : Int32) + p1)).toNatClampNeg ((ss27 (((14 : Int32) + p1)).toNatClampNeg) + p2)) fun ss29 =>
    some ss29
  ) fun J7 =>
    if v4 ≤ 0 then
      J7 ()
    else
      bd1 (fX7_ofLot ss5 (v4 - (1 : Int32)) (2 : Int32)) fun r8 =>
      if r8 ≤ p3 then
        J7 ()
      else
        gl2 (sX7_comes_rec11 rec3 v4) gFU (0 : Int32) ss5
def fX7_comes (ss : Nat → Int32) (p1 : Int32) (p2 : Int32) (p3 : Int32) : Option ((Nat → Int32)) :=
  gd (inB (2 : Int32) 599) <|
  jl (ss ((2 : Int32)).toNatClampNeg) fun v2 =>
  gl2 (sX7_comes_rec3 p1 p2 p3) gFU v2 ss

def sX7_flies_rec17 (v2 : Int32) (rec17 : Int32 → (Nat → Int32) → Option (Int32 × (Nat → Int32))) (v18 : Int32) (ss19 : Nat → Int32) : Option (Int32 × (Nat → Int32)) :=
  if (18 : Int32) ≤ v18 then
    jl (upd ss19 ((3 : Int32)).toNatClampNeg (0 : Int32)) fun ss21 =>
    jl (upd ss21 ((1 : Int32)).toNatClampNeg ((ss21 ((1 : Int32)).toNatClampNeg) + (1 : Int32))) fun ss22 =>
    some (v2, ss22)
  else
    gd (inB ((23 : Int32) + v18) 599) <|
    jl (upd ss19 (((23 : Int32) + v18)).toNatClampNeg (0 : Int32)) fun ss24 =>
    jl (v18 + (1 : Int32)) fun v25 =>
    rec17 v25 ss24
def sX7_flies_rec13 (v2 : Int32) (rec13 : Int32 → (Nat → Int32) → Option (Int32 × (Nat → Int32))) (v14 : Int32) (ss15 : Nat → Int32) : Option (Int32 × (Nat → Int32)) :=
  if ((23 : Int32) + ((3 : Int32) * v2)) ≤ v14 then
    gl2 (sX7_flies_rec17 v2) gFU (0 : Int32) ss15
  else
    gd (inB v14 599) <|
    gd (inB (v14 + (1 : Int32)) 599) <|
    gd (inB (v14 + (2 : Int32)) 599) <|
    bd1 (fX7_comes ss15 (ss15 (v14).toNatClampNeg) (ss15 ((v14 + (1 : Int32))).toNatClampNeg) ((ss15 ((0 : Int32)).toNatClampNeg) + (ss15 ((v14 + (2 : Int32))).toNatClampNeg))) fun ss29 =>
    jl (v14 + (3 : Int32)) fun v31 =>
    rec13 v31 ss29
def fX7_flies (ss : Nat → Int32)  : Option (Int32 × (Nat → Int32)) :=
  gd (inB (3 : Int32) 599) <|
  jl (ss ((3 : Int32)).toNatClampNeg) fun v2 =>
  if v2 = 0 then
    some ((-2 : Int32), ss)
  else
    gd (inB (0 : Int32) 599) <|
    bd1 (fX7_isStorm ss (ss ((0 : Int32)).toNatClampNeg)) fun r5 =>
    if r5 = 0 then
      gd (inB (1 : Int32) 599) <|
      gd (inB (13 : Int32) 599) <|
      if (ss ((1 : Int32)).toNatClampNeg) < (ss ((13 : Int32)).toNatClampNeg) then
        gd (inB (2 : Int32) 599) <|
        if ((ss ((2 : Int32)).toNatClampNeg) + v2) ≤ (20 : Int32) then
          gl2 (sX7_flies_rec13 v2) gFU (23 : Int32) ss
        else
          some ((-3 : Int32), ss)
      else
        some ((-2 : Int32), ss)
    else
      some ((-2 : Int32), ss)

def fX7_called (ss : Nat → Int32) (asd : Nat → Int32) (nb : Nat → Int32) (p1 : Int32) : Option (Int32 × (Nat → Int32) × (Nat → Int32)) :=
  if p1 = (98 : Int32) then
    gd (inB (0 : Int32) 3) <|
    gd (inB (1 : Int32) 3) <|
    gd (inB (2 : Int32) 3) <|
    bd3 (fX7_books ss asd (nb ((0 : Int32)).toNatClampNeg) (nb ((1 : Int32)).toNatClampNeg) (nb ((2 : Int32)).toNatClampNeg)) fun r9 ss10 asd11 =>
    some (r9, ss10, asd11)
  else
  if p1 = (108 : Int32) then
    gd (inB (0 : Int32) 3) <|
    gd (inB (1 : Int32) 3) <|
    gd (inB (2 : Int32) 3) <|
    bd2 (fX7_loads ss (nb ((0 : Int32)).toNatClampNeg) (nb ((1 : Int32)).toNatClampNeg) (nb ((2 : Int32)).toNatClampNeg)) fun r16 ss17 =>
    some (r16, ss17, asd)
  else
  if p1 = (110 : Int32) then
    gd (inB (0 : Int32) 3) <|
    bd2 (fX7_sleeps ss (nb ((0 : Int32)).toNatClampNeg)) fun r20 ss21 =>
    some (r20, ss21, asd)
  else
  if p1 = (115 : Int32) then
    gd (inB (0 : Int32) 3) <|
    gd (inB (1 : Int32) 3) <|
    bd2 (fX7_storms ss (nb ((0 : Int32)).toNatClampNeg) (nb ((1 : Int32)).toNatClampNeg)) fun r25 ss26 =>
    some (r25, ss26, asd)
  else
  if p1 = (120 : Int32) then
    gd (inB (0 : Int32) 3) <|
    bd2 (fX7_cancels ss (nb ((0 : Int32)).toNatClampNeg)) fun r29 ss30 =>
    some (r29, ss30, asd)
  else
    bd2 (fX7_flies ss) fun r32 ss33 =>
    some (r32, ss33, asd)

def fX7_cancel (ss : Nat → Int32) (bg : Nat → Int32) (pt : Nat → Int32) (st : Int32) (p1 : Int32) : Option (Int32 × (Nat → Int32) × (Nat → Int32) × (Nat → Int32) × Int32) :=
  bd1 (fX7_begins ss bg) fun bg1 =>
  bd2 (fX7_cancels ss p1) fun r3 ss4 =>
  bd4 (fX7_acted ss4 bg1 pt st r3) fun r6 ss7 pt8 st9 =>
  some (r6, ss7, bg1, pt8, st9)

def fX7_clear (ss : Nat → Int32) (bg : Nat → Int32) (pt : Nat → Int32) (st : Int32) (p1 : Int32) : Option (Int32 × (Nat → Int32) × (Nat → Int32) × (Nat → Int32) × Int32) :=
  bd1 (fX7_begins ss bg) fun bg1 =>
  gd (inB (0 : Int32) 599) <|
  bd1 (fX7_in p1 (ss ((0 : Int32)).toNatClampNeg) (395 : Int32)) fun r4 =>
  if r4 = 0 then
    some ((-1 : Int32), ss, bg1, pt, st)
  else
    gd (inB ((203 : Int32) + p1) 599) <|
    jl (ss (((203 : Int32) + p1)).toNatClampNeg) fun v8 =>
    jl (upd ss (((203 : Int32) + p1)).toNatClampNeg (0 : Int32)) fun ss9 =>
    bd4 (fX7_acted ss9 bg1 pt st v8) fun r10 ss11 pt12 st13 =>
    some (r10, ss11, bg1, pt12, st13)

def fX7_clearText (ln : Int32)  : Option (Int32 × Int32) :=
  some (ln, (0 : Int32))

def fX7_count (ss : Nat → Int32) (ik : Int32) (st : Int32) (ln : Int32) (p1 : Int32) : Option (Int32) :=
  if p1 = (0 : Int32) then
    gd (inB (4 : Int32) 599) <|
    some (ss ((4 : Int32)).toNatClampNeg)
  else
  if p1 = (1 : Int32) then
    bd1 (fX7_partiesOf ss (0 : Int32)) fun r17 =>
    some r17
  else
  if p1 = (2 : Int32) then
    bd1 (fX7_partiesOf ss (1 : Int32)) fun r19 =>
    some r19
  else
  if p1 = (3 : Int32) then
    bd1 (fX7_guests ss) fun r21 =>
    some r21
  else
  if p1 = (4 : Int32) then
    gd (inB (0 : Int32) 599) <|
    some (ss ((0 : Int32)).toNatClampNeg)
  else
  if p1 = (5 : Int32) then
    gd (inB (0 : Int32) 599) <|
    bd1 (fX7_isStorm ss (ss ((0 : Int32)).toNatClampNeg)) fun r25 =>
    if r25 = 0 then
      some (0 : Int32)
    else
      some (1 : Int32)
  else
  if p1 = (6 : Int32) then
    gd (inB (1 : Int32) 599) <|
    some (ss ((1 : Int32)).toNatClampNeg)
  else
  if p1 = (7 : Int32) then
    gd (inB (3 : Int32) 599) <|
    some (ss ((3 : Int32)).toNatClampNeg)
  else
  if p1 = (8 : Int32) then
    gd (inB (((5 : Int32) + p1) - (8 : Int32)) 599) <|
    some (ss ((((5 : Int32) + p1) - (8 : Int32))).toNatClampNeg)
  else
  if p1 = (9 : Int32) then
    gd (inB (((5 : Int32) + p1) - (8 : Int32)) 599) <|
    some (ss ((((5 : Int32) + p1) - (8 : Int32))).toNatClampNeg)
  else
  if p1 = (10 : Int32) then
    gd (inB (((5 : Int32) + p1) - (8 : Int32)) 599) <|
    some (ss ((((5 : Int32) + p1) - (8 : Int32))).toNatClampNeg)
  else
  if p1 = (11 : Int32) then
    gd (inB (((5 : Int32) + p1) - (8 : Int32)) 599) <|
    some (ss ((((5 : Int32) + p1) - (8 : Int32))).toNatClampNeg)
  else
  if p1 = (12 : Int32) then
    some st
  else
  if p1 = (13 : Int32) then
    some ln
  else
  if p1 = (14 : Int32) then
    if ik = 0 then
      some (0 : Int32)
    else
      some (1 : Int32)
  else
    bd1 (fX7_in p1 (20 : Int32) (23 : Int32)) fun r35 =>
    if r35 = 0 then
      some (-1 : Int32)
    else
      gd (inB (((10 : Int32) + p1) - (20 : Int32)) 599) <|
      some (ss ((((10 : Int32) + p1) - (20 : Int32))).toNatClampNeg)

def fX7_here (tx : Nat → Int32) (ln : Int32) (att : Int32)  : Option (Int32) :=
  if ln ≤ att then
    some (-1 : Int32)
  else
    gd (inB att 60) <|
    some (tx (att).toNatClampNeg)

def fX7_wants  (p1 : Int32) : Option (Int32) :=
  if p1 = (98 : Int32) then
    some (3 : Int32)
  else
  if p1 = (108 : Int32) then
    some (3 : Int32)
  else
  if p1 = (110 : Int32) then
    some (1 : Int32)
  else
  if p1 = (115 : Int32) then
    some (2 : Int32)
  else
  if p1 = (120 : Int32) then
    some (1 : Int32)
  else
    if p1 = (102 : Int32) then
      some (0 : Int32)
    else
      some (-1 : Int32)

def fX7_takesSign (tx : Nat → Int32) (ln : Int32) (att : Int32) (fo : Int32) (p1 : Int32) : Option (Int32 × Int32) :=
  mrg (fun (v6 : Int32) =>
    gd (nzB v6) <|
    if v6 = 0 then
      jl (att + (0 : Int32)) fun v9 =>
      some (v9, v6)
    else
      jl (att + (1 : Int32)) fun v10 =>
      some (v10, v6)
  ) fun J2 =>
    if fo = 0 then
      J2 (0 : Int32)
    else
      bd1 (fX7_here tx ln att) fun r3 =>
      if r3 = p1 then
        J2 (1 : Int32)
      else
        J2 (0 : Int32)

def fX7_isDigit (tx : Nat → Int32) (ln : Int32) (att : Int32)  : Option (Int32) :=
  bd1 (fX7_here tx ln att) fun r1 =>
  bd1 (fX7_in r1 (48 : Int32) (57 : Int32)) fun r3 =>
  gd (nzB r3) <|
  some r3

def sX7_number_rec8 (tx : Nat → Int32) (ln : Int32) (v6 : Int32) (rec8 : Int32 → Int32 → Int32 → Option (Int32 × Int32 × Int32)) (v9 : Int32) (v10 : Int32) (att11 : Int32) : Option (Int32 × Int32 × Int32) :=
  if (3 : Int32) ≤ v9 then
    some (v10, att11, v6)
  else
    if v6 = 0 then
      some (v10, att11, v6)
    else
      bd1 (fX7_isDigit tx ln att11) fun r14 =>
      if r14 = 0 then
        some (v10, att11, v6)
      else
        bd1 (fX7_here tx ln att11) fun r17 =>
        jl ((((10 : Int32) * v10) + r17) - (48 : Int32)) fun v19 =>
        jl (att11 + (1 : Int32)) fun v20 =>
        jl (v9 + (1 : Int32)) fun v21 =>
        rec8 v21 v19 v20
def fX7_number (tx : Nat → Int32) (ln : Int32) (att : Int32) (fo : Int32)  : Option (Int32 × Int32 × Int32) :=
  mrg (fun (v6 : Int32) =>
    gd (nzB v6) <|
    gl3 (sX7_number_rec8 tx ln v6) gFU (0 : Int32) (0 : Int32) att
  ) fun J2 =>
    if fo = 0 then
      J2 (0 : Int32)
    else
      bd1 (fX7_isDigit tx ln att) fun r3 =>
      if r3 = 0 then
        J2 (0 : Int32)
      else
        J2 (1 : Int32)

def sX7_does_rec22 (tx : Nat → Int32) (ln : Int32) (rec1 : (Nat → Int32) → (Nat → Int32) → Int32 → Int32 → Int32 → Int32 → (Nat → Int32) → Option (Int32 × (Nat → Int32) × (Nat → Int32) × Int32 × Int32 × Int32 × Int32 × (Nat → Int32))) (ss2 : Nat → Int32) (asd3 : Nat → Int32) (att4 : Int32) (dn5 : Int32) (r10 : Int32) (rec22 : Int32 → Int32 → Int32 → (Nat → Int32) → Option (Int32 × (Nat → Int32) × (Nat → Int32) × Int32 × Int32 × Int32 × Int32 × (Nat → Int32))) (v23 : Int32) (att24 : Int32) (fo25 : Int32) (nb26 : Nat → Int32) : Option (Int32 × (Nat → Int32) × (Nat → Int32) × Int32 × Int32 × Int32 × Int32 × (Nat → Int32)) :=
  bd1 (fX7_wants r10) fun r27 =>
  if r27 ≤ v23 then
    bd2 (fX7_takesSign tx ln att24 fo25 (59 : Int32)) fun att30 fo31 =>
    mrg (fun (ss39 : Nat → Int32) (asd40 : Nat → Int32) (v41 : Int32) =>
      if fo31 = 0 then
        some (att4, ss39, asd40, att30, dn5, v41, fo31, nb26)
      else
        if 0 ≤ v41 then
          jl (dn5 + (1 : Int32)) fun v44 =>
          rec1 ss39 asd40 att30 v44 v41 fo31 nb26
        else
          some (att4, ss39, asd40, att30, dn5, v41, fo31, nb26)
    ) fun J34 =>
      if fo31 = 0 then
        J34 ss2 asd3 (0 : Int32)
      else
        bd3 (fX7_called ss2 asd3 nb26 r10) fun r35 ss36 asd37 =>
        J34 ss36 asd37 r35
  else
    mrg (fun (att50 : Int32) (fo51 : Int32) =>
      bd3 (fX7_number tx ln att50 fo51) fun r52 att53 fo54 =>
      gd (inB v23 3) <|
      jl (upd nb26 (v23).toNatClampNeg r52) fun nb57 =>
      jl (v23 + (1 : Int32)) fun v58 =>
      rec22 v58 att53 fo54 nb57
    ) fun J46 =>
      if v23 ≤ 0 then
        J46 att24 fo25
      else
        bd2 (fX7_takesSign tx ln att24 fo25 (44 : Int32)) fun att47 fo48 =>
        J46 att47 fo48
def sX7_does_rec1 (tx : Nat → Int32) (ln : Int32) (rec1 : (Nat → Int32) → (Nat → Int32) → Int32 → Int32 → Int32 → Int32 → (Nat → Int32) → Option (Int32 × (Nat → Int32) × (Nat → Int32) × Int32 × Int32 × Int32 × Int32 × (Nat → Int32))) (ss2 : Nat → Int32) (asd3 : Nat → Int32) (att4 : Int32) (dn5 : Int32) (td6 : Int32) (fo7 : Int32) (nb8 : Nat → Int32) : Option (Int32 × (Nat → Int32) × (Nat → Int32) × Int32 × Int32 × Int32 × Int32 × (Nat → Int32)) :=
  if ln ≤ att4 then
    some ((-1 : Int32), ss2, asd3, att4, dn5, td6, fo7, nb8)
  else
    bd1 (fX7_here tx ln att4) fun r10 =>
    bd1 (fX7_wants r10) fun r12 =>
    mrg (fun (v16 : Int32) =>
      gd (nzB v16) <|
      mrg (fun (v20 : Int32) =>
        jl (att4 + v20) fun v21 =>
        gl4 (sX7_does_rec22 tx ln rec1 ss2 asd3 att4 dn5 r10) gFU (0 : Int32) v21 v16 nb8
      ) fun J19 =>
        if v16 = 0 then
          J19 (0 : Int32)
        else
          J19 (1 : Int32)
    ) fun J15 =>
      if r12 < 0 then
        J15 (0 : Int32)
      else
        J15 (1 : Int32)
def fX7_does (ss : Nat → Int32) (tx : Nat → Int32) (ln : Int32) (asd : Nat → Int32) (td : Int32) (fo : Int32) (nb : Nat → Int32)  : Option (Int32 × (Nat → Int32) × (Nat → Int32) × Int32 × Int32 × Int32 × Int32 × (Nat → Int32)) :=
  gl7 (sX7_does_rec1 tx ln) gFU ss asd (0 : Int32) (0 : Int32) td fo nb

def fX7_fault (ss : Nat → Int32) (bg : Nat → Int32) (tx : Nat → Int32) (ln : Int32) (asd : Nat → Int32) (att : Int32) (dn : Int32) (td : Int32) (fo : Int32) (nb : Nat → Int32) (p1 : Int32) : Option (Int32 × (Nat → Int32) × (Nat → Int32) × (Nat → Int32) × Int32 × Int32 × Int32 × Int32 × (Nat → Int32)) :=
  bd1 (fX7_in p1 (0 : Int32) (2 : Int32)) fun r1 =>
  if r1 = 0 then
    some ((-1 : Int32), ss, bg, asd, att, dn, td, fo, nb)
  else
    bd1 (fX7_begins ss bg) fun bg4 =>
    bd8 (fX7_does ss tx ln asd td fo nb) fun r6 ss7 asd8 att9 dn10 td11 fo12 nb13 =>
    bd1 (fX7_returns ss7 bg4) fun ss15 =>
    mrg (fun (v21 : Int32) =>
      if v21 = 0 then
        some ((-4 : Int32), ss15, bg4, asd8, att9, dn10, td11, fo12, nb13)
      else
        if p1 = 0 then
          some (r6, ss15, bg4, asd8, att9, dn10, td11, fo12, nb13)
        else
          if p1 = (1 : Int32) then
            if fo12 = 0 then
              some ((1 : Int32), ss15, bg4, asd8, att9, dn10, td11, fo12, nb13)
            else
              some ((2 : Int32), ss15, bg4, asd8, att9, dn10, td11, fo12, nb13)
          else
            some (td11, ss15, bg4, asd8, att9, dn10, td11, fo12, nb13)
    ) fun J18 =>
      if r6 < 0 then
        J18 (0 : Int32)
      else
        if p1 < (2 : Int32) then
          J18 (1 : Int32)
        else
          if fo12 = 0 then
            J18 (0 : Int32)
          else
            J18 (1 : Int32)

def fX7_fly (ss : Nat → Int32) (bg : Nat → Int32) (pt : Nat → Int32) (st : Int32)  : Option (Int32 × (Nat → Int32) × (Nat → Int32) × (Nat → Int32) × Int32) :=
  bd1 (fX7_begins ss bg) fun bg1 =>
  bd2 (fX7_flies ss) fun r3 ss4 =>
  bd4 (fX7_acted ss4 bg1 pt st r3) fun r6 ss7 pt8 st9 =>
  some (r6, ss7, bg1, pt8, st9)

def sX7_goneOn_rec9 (p1 : Int32) (bg7 : Nat → Int32) (rec9 : (Nat → Int32) → Option (Int32 × (Nat → Int32) × (Nat → Int32))) (ss10 : Nat → Int32) : Option (Int32 × (Nat → Int32) × (Nat → Int32)) :=
  bd1 (fX7_ofParty ss10 p1 (3 : Int32)) fun r11 =>
  if (1 : Int32) < r11 then
    bd1 (fX7_ofParty ss10 p1 (3 : Int32)) fun r14 =>
    mrg (fun (v19 : Int32) =>
      bd1 (fX7_returns ss10 bg7) fun ss20 =>
      some (v19, ss20, bg7)
    ) fun J17 =>
      if r14 = (2 : Int32) then
        gd (inB (0 : Int32) 599) <|
        J17 ((ss10 ((0 : Int32)).toNatClampNeg) - (1 : Int32))
      else
        J17 (-4 : Int32)
  else
    bd1 (fX7_night ss10) fun ss22 =>
    rec9 ss22
def fX7_goneOn (ss : Nat → Int32) (bg : Nat → Int32) (p1 : Int32) : Option (Int32 × (Nat → Int32) × (Nat → Int32)) :=
  bd1 (fX7_isParty ss p1) fun r1 =>
  if r1 = 0 then
    some ((-1 : Int32), ss, bg)
  else
    bd1 (fX7_ofParty ss p1 (3 : Int32)) fun r4 =>
    if r4 ≤ (1 : Int32) then
      bd1 (fX7_begins ss bg) fun bg7 =>
      gl1 (sX7_goneOn_rec9 p1 bg7) gFU ss
    else
      some ((-2 : Int32), ss, bg)

def fX7_isSetting  (p1 : Int32) (p2 : Int32) : Option (Int32) :=
  if p1 = (0 : Int32) then
    bd1 (fX7_in p2 (1 : Int32) (40 : Int32)) fun r3 =>
    gd (nzB r3) <|
    some r3
  else
  if p1 = (1 : Int32) then
    bd1 (fX7_in p2 (1 : Int32) (3 : Int32)) fun r6 =>
    gd (nzB r6) <|
    some r6
  else
    bd1 (fX7_in p1 (2 : Int32) (3 : Int32)) fun r9 =>
    if r9 = 0 then
      some (0 : Int32)
    else
      bd1 (fX7_in p2 (0 : Int32) (9 : Int32)) fun r12 =>
      if r12 = 0 then
        some (0 : Int32)
      else
        some (1 : Int32)

def sX7_keep_rec1 (ss : Nat → Int32) (rec1 : Int32 → (Nat → Int32) → Option (Int32 × (Nat → Int32) × Int32)) (v2 : Int32) (kp3 : Nat → Int32) : Option (Int32 × (Nat → Int32) × Int32) :=
  if (599 : Int32) ≤ v2 then
    gd (inB (0 : Int32) 599) <|
    some ((ss ((0 : Int32)).toNatClampNeg), kp3, (1 : Int32))
  else
    gd (inB v2 599) <|
    jl (upd kp3 (v2).toNatClampNeg (ss (v2).toNatClampNeg)) fun kp7 =>
    jl (v2 + (1 : Int32)) fun v8 =>
    rec1 v8 kp7
def fX7_keep (ss : Nat → Int32) (kp : Nat → Int32)  : Option (Int32 × (Nat → Int32) × Int32) :=
  gl2 (sX7_keep_rec1 ss) gFU (0 : Int32) kp

def fX7_load (ss : Nat → Int32) (bg : Nat → Int32) (pt : Nat → Int32) (st : Int32) (p1 : Int32) (p2 : Int32) (p3 : Int32) : Option (Int32 × (Nat → Int32) × (Nat → Int32) × (Nat → Int32) × Int32) :=
  bd1 (fX7_begins ss bg) fun bg1 =>
  bd2 (fX7_loads ss p1 p2 p3) fun r3 ss4 =>
  bd4 (fX7_acted ss4 bg1 pt st r3) fun r6 ss7 pt8 st9 =>
  some (r6, ss7, bg1, pt8, st9)

def sX7_loadedOf_rec1 (ss : Nat → Int32) (p1 : Int32) (rec1 : Int32 → Int32 → Option (Int32)) (v2 : Int32) (v3 : Int32) : Option (Int32) :=
  gd (inB (3 : Int32) 599) <|
  if (ss ((3 : Int32)).toNatClampNeg) ≤ v2 then
    some v3
  else
    gd (inB ((23 : Int32) + ((3 : Int32) * v2)) 599) <|
    if (ss (((23 : Int32) + ((3 : Int32) * v2))).toNatClampNeg) = p1 then
      gd (inB (((23 : Int32) + ((3 : Int32) * v2)) + (1 : Int32)) 599) <|
      jl (v3 + (ss ((((23 : Int32) + ((3 : Int32) * v2)) + (1 : Int32))).toNatClampNeg)) fun v11 =>
      jl (v2 + (1 : Int32)) fun v12 =>
      rec1 v12 v11
    else
      jl (v3 + (0 : Int32)) fun v8 =>
      jl (v2 + (1 : Int32)) fun v9 =>
      rec1 v9 v8
def fX7_loadedOf (ss : Nat → Int32) (p1 : Int32) : Option (Int32) :=
  gl2 (sX7_loadedOf_rec1 ss p1) gFU (0 : Int32) (0 : Int32)

def sX7_lotOf_rec8 (ss : Nat → Int32) (p1 : Int32) (p3 : Int32) (rec8 : Int32 → Int32 → Option (Int32)) (v9 : Int32) (v10 : Int32) : Option (Int32) :=
  gd (inB (2 : Int32) 599) <|
  if (ss ((2 : Int32)).toNatClampNeg) ≤ v9 then
    some (-4 : Int32)
  else
    bd1 (fX7_ofLot ss v9 (0 : Int32)) fun r13 =>
    mrg (fun (v17 : Int32) =>
      mrg (fun (_ : Unit) =>
        if v17 = 0 then
          jl (v10 - (0 : Int32)) fun v24 =>
          jl (v9 + (1 : Int32)) fun v25 =>
          rec8 v25 v24
        else
          jl (v10 - (1 : Int32)) fun v26 =>
          jl (v9 + (1 : Int32)) fun v27 =>
          rec8 v27 v26
      ) fun J19 =>
        if v17 = 0 then
          J19 ()
        else
          if v10 = 0 then
            bd1 (fX7_ofLot ss v9 (p3 + (1 : Int32))) fun r21 =>
            some r21
          else
            J19 ()
    ) fun J16 =>
      if r13 = p1 then
        J16 (1 : Int32)
      else
        J16 (0 : Int32)
def fX7_lotOf (ss : Nat → Int32) (p1 : Int32) (p2 : Int32) (p3 : Int32) : Option (Int32) :=
  bd1 (fX7_in p1 (0 : Int32) (2 : Int32)) fun r1 =>
  if r1 = 0 then
    some (-1 : Int32)
  else
    if p2 < 0 then
      some (-1 : Int32)
    else
      bd1 (fX7_in p3 (0 : Int32) (1 : Int32)) fun r5 =>
      if r5 = 0 then
        some (-1 : Int32)
      else
        gl2 (sX7_lotOf_rec8 ss p1 p3) gFU (0 : Int32) p2

def sX7_lotsOf_rec1 (ss : Nat → Int32) (p1 : Int32) (rec1 : Int32 → Int32 → Option (Int32)) (v2 : Int32) (v3 : Int32) : Option (Int32) :=
  gd (inB (2 : Int32) 599) <|
  if (ss ((2 : Int32)).toNatClampNeg) ≤ v2 then
    some v3
  else
    bd1 (fX7_ofLot ss v2 (0 : Int32)) fun r6 =>
    if r6 = p1 then
      jl (v3 + (1 : Int32)) fun v11 =>
      jl (v2 + (1 : Int32)) fun v12 =>
      rec1 v12 v11
    else
      jl (v3 + (0 : Int32)) fun v9 =>
      jl (v2 + (1 : Int32)) fun v10 =>
      rec1 v10 v9
def fX7_lotsOf (ss : Nat → Int32) (p1 : Int32) : Option (Int32) :=
  gl2 (sX7_lotsOf_rec1 ss p1) gFU (0 : Int32) (0 : Int32)

def sX7_most_rec6 (p1 : Int32) (p2 : Int32) (rec6 : Int32 → (Nat → Int32) → (Nat → Int32) → Option (Int32 × (Nat → Int32) × (Nat → Int32))) (v7 : Int32) (ss8 : Nat → Int32) (asd9 : Nat → Int32) : Option (Int32 × (Nat → Int32) × (Nat → Int32)) :=
  if v7 ≤ 0 then
    some (v7, ss8, asd9)
  else
    bd3 (fX7_isTaken ss8 asd9 v7 p1 p2) fun r11 ss12 asd13 =>
    if r11 = 0 then
      jl (v7 + (-1 : Int32)) fun v16 =>
      rec6 v16 ss12 asd13
    else
      some (v7, ss12, asd13)
def fX7_most (ss : Nat → Int32) (asd : Nat → Int32) (p1 : Int32) (p2 : Int32) : Option (Int32 × (Nat → Int32) × (Nat → Int32)) :=
  bd1 (fX7_isStay ss p1 p2) fun r1 =>
  if r1 = 0 then
    some ((-1 : Int32), ss, asd)
  else
    gd (inB (4 : Int32) 599) <|
    if (ss ((4 : Int32)).toNatClampNeg) = (16 : Int32) then
      some ((-3 : Int32), ss, asd)
    else
      gl3 (sX7_most_rec6 p1 p2) gFU (6 : Int32) ss asd

def sX7_outOn_rec6 (p1 : Int32) (bg4 : Nat → Int32) (rec6 : Int32 → (Nat → Int32) → Option (Int32 × (Nat → Int32) × (Nat → Int32))) (v7 : Int32) (ss8 : Nat → Int32) : Option (Int32 × (Nat → Int32) × (Nat → Int32)) :=
  mrg (fun (_ : Unit) =>
    bd1 (fX7_returns ss8 bg4) fun ss21 =>
    some (v7, ss21, bg4)
  ) fun J10 =>
    if 0 ≤ v7 then
      J10 ()
    else
      bd1 (fX7_isAny ss8) fun r11 =>
      if r11 = 0 then
        J10 ()
      else
        bd1 (fX7_night ss8) fun ss14 =>
        bd1 (fX7_stock ss14 p1) fun r16 =>
        if r16 = 0 then
          gd (inB (0 : Int32) 599) <|
          jl ((ss14 ((0 : Int32)).toNatClampNeg) - (1 : Int32)) fun v20 =>
          rec6 v20 ss14
        else
          rec6 (-4 : Int32) ss14
def fX7_outOn (ss : Nat → Int32) (bg : Nat → Int32) (p1 : Int32) : Option (Int32 × (Nat → Int32) × (Nat → Int32)) :=
  bd1 (fX7_in p1 (0 : Int32) (2 : Int32)) fun r1 =>
  if r1 = 0 then
    some ((-1 : Int32), ss, bg)
  else
    bd1 (fX7_begins ss bg) fun bg4 =>
    gl2 (sX7_outOn_rec6 p1 bg4) gFU (-4 : Int32) ss

def fX7_partyOf (ss : Nat → Int32) (p1 : Int32) (p2 : Int32) : Option (Int32) :=
  bd1 (fX7_isParty ss p1) fun r1 =>
  if r1 = 0 then
    some (-1 : Int32)
  else
    bd1 (fX7_in p2 (0 : Int32) (6 : Int32)) fun r4 =>
    if r4 = 0 then
      some (-1 : Int32)
    else
      bd1 (fX7_ofParty ss p1 (4 : Int32)) fun r7 =>
      bd1 (fX7_ofParty ss p1 (2 : Int32)) fun r9 =>
      jl (r7 - r9) fun v11 =>
      if p2 = (5 : Int32) then
        bd1 (fX7_ofParty ss p1 (5 : Int32)) fun r14 =>
        if r14 = 0 then
          some (-4 : Int32)
        else
          bd1 (fX7_ofParty ss p1 (5 : Int32)) fun r17 =>
          some (r17 - (1 : Int32))
      else
      if p2 = (6 : Int32) then
        if 0 ≤ v11 then
          some v11
        else
          some (0 : Int32)
      else
        bd1 (fX7_ofParty ss p1 p2) fun r20 =>
        some r20

def fX7_play (ss : Nat → Int32) (bg : Nat → Int32) (pt : Nat → Int32) (st : Int32) (tx : Nat → Int32) (ln : Int32) (asd : Nat → Int32) (td : Int32) (fo : Int32) (nb : Nat → Int32)  : Option (Int32 × (Nat → Int32) × (Nat → Int32) × (Nat → Int32) × Int32 × (Nat → Int32) × Int32 × Int32 × Int32 × Int32 × (Nat → Int32)) :=
  bd1 (fX7_begins ss bg) fun bg1 =>
  bd8 (fX7_does ss tx ln asd td fo nb) fun r3 ss4 asd5 att6 dn7 td8 fo9 nb10 =>
  if 0 ≤ r3 then
    bd4 (fX7_acted ss4 bg1 pt st (-2 : Int32)) fun r13 ss14 pt15 st16 =>
    some (r13, ss14, bg1, pt15, st16, asd5, att6, dn7, td8, fo9, nb10)
  else
    bd4 (fX7_acted ss4 bg1 pt st dn7) fun r18 ss19 pt20 st21 =>
    some (r18, ss19, bg1, pt20, st21, asd5, att6, dn7, td8, fo9, nb10)

def sX7_restore_rec4 (kp : Nat → Int32) (pt : Nat → Int32) (st : Int32) (bg1 : Nat → Int32) (rec4 : Int32 → (Nat → Int32) → Option (Int32 × (Nat → Int32) × (Nat → Int32) × (Nat → Int32) × Int32)) (v5 : Int32) (ss6 : Nat → Int32) : Option (Int32 × (Nat → Int32) × (Nat → Int32) × (Nat → Int32) × Int32) :=
  if (599 : Int32) ≤ v5 then
    gd (inB (0 : Int32) 599) <|
    bd4 (fX7_acted ss6 bg1 pt st (ss6 ((0 : Int32)).toNatClampNeg)) fun r9 ss10 pt11 st12 =>
    some (r9, ss10, bg1, pt11, st12)
  else
    gd (inB v5 599) <|
    jl (upd ss6 (v5).toNatClampNeg (kp (v5).toNatClampNeg)) fun ss15 =>
    jl (v5 + (1 : Int32)) fun v16 =>
    rec4 v16 ss15
def fX7_restore (ss : Nat → Int32) (bg : Nat → Int32) (kp : Nat → Int32) (ik : Int32) (pt : Nat → Int32) (st : Int32)  : Option (Int32 × (Nat → Int32) × (Nat → Int32) × (Nat → Int32) × Int32) :=
  bd1 (fX7_begins ss bg) fun bg1 =>
  if ik = 0 then
    some ((-2 : Int32), ss, bg1, pt, st)
  else
    gl2 (sX7_restore_rec4 kp pt st bg1) gFU (0 : Int32) ss

def fX7_set (ss : Nat → Int32) (bg : Nat → Int32) (pt : Nat → Int32) (st : Int32) (p1 : Int32) (p2 : Int32) : Option (Int32 × (Nat → Int32) × (Nat → Int32) × (Nat → Int32) × Int32) :=
  bd1 (fX7_begins ss bg) fun bg1 =>
  bd1 (fX7_isSetting p1 p2) fun r3 =>
  if r3 = 0 then
    some ((-1 : Int32), ss, bg1, pt, st)
  else
    gd (inB ((10 : Int32) + p1) 599) <|
    jl (ss (((10 : Int32) + p1)).toNatClampNeg) fun v7 =>
    jl (upd ss (((10 : Int32) + p1)).toNatClampNeg p2) fun ss8 =>
    bd4 (fX7_acted ss8 bg1 pt st v7) fun r9 ss10 pt11 st12 =>
    some (r9, ss10, bg1, pt11, st12)

def fX7_sleep (ss : Nat → Int32) (bg : Nat → Int32) (pt : Nat → Int32) (st : Int32) (p1 : Int32) : Option (Int32 × (Nat → Int32) × (Nat → Int32) × (Nat → Int32) × Int32) :=
  bd1 (fX7_begins ss bg) fun bg1 =>
  bd2 (fX7_sleeps ss p1) fun r3 ss4 =>
  bd4 (fX7_acted ss4 bg1 pt st r3) fun r6 ss7 pt8 st9 =>
  some (r6, ss7, bg1, pt8, st9)

def fX7_storeOf (ss : Nat → Int32) (p1 : Int32) (p2 : Int32) : Option (Int32) :=
  bd1 (fX7_in p1 (0 : Int32) (2 : Int32)) fun r1 =>
  if r1 = 0 then
    some (-1 : Int32)
  else
    bd1 (fX7_in p2 (0 : Int32) (5 : Int32)) fun r4 =>
    if r4 = 0 then
      some (-1 : Int32)
    else
      if p2 = (0 : Int32) then
        bd1 (fX7_stock ss p1) fun r12 =>
        some r12
      else
      if p2 = (1 : Int32) then
        gd (inB ((((14 : Int32) + ((3 : Int32) * p2)) - (3 : Int32)) + p1) 599) <|
        some (ss (((((14 : Int32) + ((3 : Int32) * p2)) - (3 : Int32)) + p1)).toNatClampNeg)
      else
      if p2 = (2 : Int32) then
        gd (inB ((((14 : Int32) + ((3 : Int32) * p2)) - (3 : Int32)) + p1) 599) <|
        some (ss (((((14 : Int32) + ((3 : Int32) * p2)) - (3 : Int32)) + p1)).toNatClampNeg)
      else
      if p2 = (3 : Int32) then
        gd (inB ((((14 : Int32) + ((3 : Int32) * p2)) - (3 : Int32)) + p1) 599) <|
        some (ss (((((14 : Int32) + ((3 : Int32) * p2)) - (3 : Int32)) + p1)).toNatClampNeg)
      else
      if p2 = (4 : Int32) then
        bd1 (fX7_lotsOf ss p1) fun r17 =>
        some r17
      else
        bd1 (fX7_loadedOf ss p1) fun r19 =>
        some r19

def fX7_storm (ss : Nat → Int32) (bg : Nat → Int32) (pt : Nat → Int32) (st : Int32) (p1 : Int32) (p2 : Int32) : Option (Int32 × (Nat → Int32) × (Nat → Int32) × (Nat → Int32) × Int32) :=
  bd1 (fX7_begins ss bg) fun bg1 =>
  bd2 (fX7_storms ss p1 p2) fun r3 ss4 =>
  bd4 (fX7_acted ss4 bg1 pt st r3) fun r6 ss7 pt8 st9 =>
  some (r6, ss7, bg1, pt8, st9)

def fX7_type (tx : Nat → Int32) (ln : Int32) (p1 : Int32) : Option (Int32 × (Nat → Int32) × Int32) :=
  bd1 (fX7_in p1 (32 : Int32) (126 : Int32)) fun r1 =>
  if r1 = 0 then
    some ((-1 : Int32), tx, ln)
  else
    if ln = (60 : Int32) then
      some ((-3 : Int32), tx, ln)
    else
      gd (inB ln 60) <|
      jl (upd tx (ln).toNatClampNeg p1) fun tx6 =>
      jl (ln + (1 : Int32)) fun v7 =>
      some (v7, tx6, v7)

def sX7_undo_rec3 (pt : Nat → Int32) (v2 : Int32) (rec3 : Int32 → (Nat → Int32) → Option (Int32 × (Nat → Int32) × Int32)) (v4 : Int32) (ss5 : Nat → Int32) : Option (Int32 × (Nat → Int32) × Int32) :=
  if (599 : Int32) ≤ v4 then
    some (v2, ss5, v2)
  else
    gd (inB (((599 : Int32) * v2) + v4) 2396) <|
    gd (inB v4 599) <|
    jl (upd ss5 (v4).toNatClampNeg (pt ((((599 : Int32) * v2) + v4)).toNatClampNeg)) fun ss9 =>
    jl (v4 + (1 : Int32)) fun v10 =>
    rec3 v10 ss9
def fX7_undo (ss : Nat → Int32) (pt : Nat → Int32) (st : Int32)  : Option (Int32 × (Nat → Int32) × Int32) :=
  if st = 0 then
    some ((-2 : Int32), ss, st)
  else
    jl (st - (1 : Int32)) fun v2 =>
    gl2 (sX7_undo_rec3 pt v2) gFU (0 : Int32) ss
