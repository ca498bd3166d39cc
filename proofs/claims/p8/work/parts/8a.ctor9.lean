theorem zz_8a_ctor9 : True := trivial
