theorem zz_45_learn : True := trivial
