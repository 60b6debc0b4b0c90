def nf_Guests_init (Q : Int → (Int → Int) → (Int → Int) → (Int → Int) → (Int → Int) → (Int → Int) → (Int → Int) → (Int → Int) → Prop) : Prop :=
  wL zA fun f2 =>
  wL zA fun f4 =>
  wL zA fun f6 =>
  wL zA fun f8 =>
  wL zA fun f10 =>
  wL zA fun f12 =>
  wL zA fun f14 =>
  Q (ci 0) f2 f4 f6 f8 f10 f12 f14
def nf_Events_init (Q : Int → (Int → Int) → Prop) : Prop :=
  wL zA fun f2 =>
  Q (ci 0) f2
def nf_Claims_init (Q : Int → (Int → Int) → (Int → Int) → (Int → Int) → Prop) : Prop :=
  wL zA fun f2 =>
  wL zA fun f4 =>
  wL zA fun f6 =>
  Q (ci 0) f2 f4 f6
def nf_Nights_init (Q : Int → (Int → Int) → Prop) : Prop :=
  wL zA fun f2 =>
  Q (ci 0) f2
def nf_Hall_init (Q : Int → Int → Int → (Int → Int) → (Int → Int) → (Int → Int) → (Int → Int) → Prop) : Prop :=
  wL zA fun f2 =>
  wL zA fun f4 =>
  wL zA fun f6 =>
  wL zA fun f8 =>
  Q (ci 0) (ci 0) (ci 0) f2 f4 f6 f8
def nf_Image_init (Q : Int → Int → (Int → Int) → (Int → Int) → (Int → Int) → (Int → Int) → (Int → Int) → (Int → Int) → (Int → Int) → Int → (Int → Int) → Int → (Int → Int) → (Int → Int) → (Int → Int) → Int → (Int → Int) → Prop) : Prop :=
  nf_Guests_init fun z9 f10 f11 f12 f13 f14 f15 f16 =>
  nf_Events_init fun z19 f20 =>
  nf_Claims_init fun z25 f26 f27 f28 =>
  nf_Nights_init fun z31 f32 =>
  Q (ci 0) z9 f10 f11 f12 f13 f14 f15 f16 z19 f20 z25 f26 f27 f28 z31 f32
def nf_Reader_init (Q : Int → Int → Int → Int → Int → Int → (Int → Int) → Int → Int → Int → (Int → Int) → (Int → Int) → (Int → Int) → (Int → Int) → Prop) : Prop :=
  wL zA fun f2 =>
  nf_Hall_init fun z8 z9 z10 f11 f12 f13 f14 =>
  Q (ci 0) (ci (-1)) (ci 0) (ci 0) (ci 0) (ci 0) f2 z8 z9 z10 f11 f12 f13 f14
def nf_Plan_init (Q : Int → (Int → Int) → (Int → Int) → (Int → Int) → Prop) : Prop :=
  wL zA fun f2 =>
  wL zA fun f4 =>
  wL zA fun f6 =>
  Q (ci 0) f2 f4 f6
def nf_Rush_init (Q : Int → Int → Int → Int → (Int → Int) → (Int → Int) → (Int → Int) → (Int → Int) → (Int → Int) → (Int → Int) → (Int → Int) → (Int → Int) → Prop) : Prop :=
  wL zA fun f2 =>
  wL zA fun f4 =>
  wL zA fun f6 =>
  wL zA fun f8 =>
  wL zA fun f10 =>
  wL zA fun f12 =>
  wL zA fun f14 =>
  wL zA fun f16 =>
  Q (ci 0) (ci 0) (ci 0) (ci 0) f2 f4 f6 f8 f10 f12 f14 f16
def nf_Matching_init (Q : Int → (Int → Int) → (Int → Int) → Prop) : Prop :=
  wL zA fun f2 =>
  wL zA fun f4 =>
  Q (ci 0) f2 f4
def nf_H_init (Q : Int → Int → Int → Int → (Int → Int) → (Int → Int) → (Int → Int) → (Int → Int) → (Int → Int) → (Int → Int) → (Int → Int) → Int → (Int → Int) → Int → (Int → Int) → (Int → Int) → (Int → Int) → Int → (Int → Int) → Int → Int → (Int → Int) → (Int → Int) → (Int → Int) → (Int → Int) → (Int → Int) → (Int → Int) → (Int → Int) → Int → (Int → Int) → Int → (Int → Int) → (Int → Int) → (Int → Int) → Int → (Int → Int) → Int → Int → (Int → Int) → (Int → Int) → (Int → Int) → (Int → Int) → (Int → Int) → (Int → Int) → (Int → Int) → Int → (Int → Int) → Int → (Int → Int) → (Int → Int) → (Int → Int) → Int → (Int → Int) → Int → Int → Int → (Int → Int) → (Int → Int) → (Int → Int) → (Int → Int) → Int → Int → Int → Int → Int → Int → (Int → Int) → Int → Int → Int → (Int → Int) → (Int → Int) → (Int → Int) → (Int → Int) → Int → (Int → Int) → (Int → Int) → (Int → Int) → Int → Int → Int → Int → (Int → Int) → (Int → Int) → (Int → Int) → (Int → Int) → (Int → Int) → (Int → Int) → (Int → Int) → (Int → Int) → Int → (Int → Int) → (Int → Int) → Prop) : Prop :=
  nf_Hall_init fun z6 z7 z8 f9 f10 f11 f12 =>
  nf_Reader_init fun z20 z21 z22 z23 z24 z25 f29 z26 z27 z28 f30 f31 f32 f33 =>
  nf_Image_init fun z51 z52 f56 f57 f58 f59 f60 f61 f62 z53 f63 z54 f64 f65 f66 z55 f67 =>
  nf_Image_init fun z85 z86 f90 f91 f92 f93 f94 f95 f96 z87 f97 z88 f98 f99 f100 z89 f101 =>
  nf_Image_init fun z119 z120 f124 f125 f126 f127 f128 f129 f130 z121 f131 z122 f132 f133 f134 z123 f135 =>
  nf_Plan_init fun z140 f141 f142 f143 =>
  nf_Rush_init fun z153 z154 z155 z156 f157 f158 f159 f160 f161 f162 f163 f164 =>
  nf_Matching_init fun z168 f169 f170 =>
  nf_Hall_clear z6 z7 z8 f11 f12  fun z171 z172 z173 f174 f175 =>
  Q (ci (-1)) (ci 0) z51 z52 f56 f57 f58 f59 f60 f61 f62 z53 f63 z54 f64 f65 f66 z55 f67 z85 z86 f90 f91 f92 f93 f94 f95 f96 z87 f97 z88 f98 f99 f100 z89 f101 z119 z120 f124 f125 f126 f127 f128 f129 f130 z121 f131 z122 f132 f133 f134 z123 f135 z171 z172 z173 f9 f10 f174 f175 z20 z21 z22 z23 z24 z25 f29 z26 z27 z28 f30 f31 f32 f33 z140 f141 f142 f143 z153 z154 z155 z156 f157 f158 f159 f160 f161 f162 f163 f164 z168 f169 f170
def nf_M_init (Q : Int → Int → Int → Int → Int → Int → Int → Int → Int → Int → Int → Int → Int → Int → Int → Int → Int → Int → Int → Int → Int → Int → Int → Int → Int → (Int → Int) → (Int → Int) → (Int → Int) → (Int → Int) → (Int → Int) → (Int → Int) → (Int → Int) → (Int → Int) → (Int → Int) → (Int → Int) → (Int → Int) → (Int → Int) → (Int → Int) → (Int → Int) → (Int → Int) → (Int → Int) → (Int → Int) → (Int → Int) → (Int → Int) → (Int → Int) → (Int → Int) → (Int → Int) → (Int → Int) → (Int → Int) → (Int → Int) → (Int → Int) → (Int → Int) → (Int → Int) → (Int → Int) → (Int → Int) → (Int → Int) → (Int → Int) → (Int → Int) → Prop) : Prop :=
  wL zA fun f2 =>
  wL zA fun f4 =>
  wL zA fun f6 =>
  wL zA fun f8 =>
  wL zA fun f10 =>
  wL zA fun f12 =>
  wL zA fun f14 =>
  wL zA fun f16 =>
  wL zA fun f18 =>
  wL zA fun f20 =>
  wL zA fun f22 =>
  wL zA fun f24 =>
  wL zA fun f26 =>
  wL zA fun f28 =>
  wL zA fun f30 =>
  wL zA fun f32 =>
  wL zA fun f34 =>
  wL zA fun f36 =>
  wL zA fun f38 =>
  wL zA fun f40 =>
  wL zA fun f42 =>
  wL zA fun f44 =>
  wL zA fun f46 =>
  wL zA fun f48 =>
  wL zA fun f50 =>
  wL zA fun f52 =>
  wL zA fun f54 =>
  wL zA fun f56 =>
  wL zA fun f58 =>
  wL zA fun f60 =>
  wL zA fun f62 =>
  wL zA fun f64 =>
  wL zA fun f66 =>
  nf_M_bare (ci 0) (ci 0) (ci 0) f16 f18  fun z67 z68 z69 f70 f71 =>
  nf_M_keepHall (ci 0) (ci 0) z67 f2 f4 f6 f8 f12 f14 f70 f71  fun z72 z73 f74 f75 f76 f77 =>
  nlp2 (fun self80 (l1_78 : Int) (z79 : (Int → Int)) =>
      cB ((ci 24) ≤ l1_78)
        (Q z72 z73 (ci 0) (ci (-1)) (ci 0) (cl 0) (ci 0) (ci 0) (ci 0) z67 z68 z69 (ci 0) (ci (-1)) (ci 0) (ci 0) (ci 0) (ci 0) (ci 0) (ci 0) (ci 0) (ci 0) (ci 0) (ci 0) (ci 0) f74 f75 f76 f77 f10 f12 f14 f70 f71 z79 f22 f24 f26 f28 f30 f32 f34 f36 f38 f40 f42 f44 f46 f48 f50 f52 f54 f56 f58 f60 f62 f64 f66)
        (wO (inb l1_78 24) (ups z79 l1_78 (ci (-1))) fun f81 =>
        wO (iR (l1_78 + (ci 1))) (l1_78 + (ci 1)) fun v82 =>
        self80 v82 f81)) (ci 0) f20
