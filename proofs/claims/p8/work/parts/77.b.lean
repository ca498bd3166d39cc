theorem zz_77_b : True := trivial
